/** Promises 6, 7 and 8: turn, acting and rounds. */
final class TurnTest {
    public static void main(String[] args) {
        LayeredTable x = new LayeredTable();
        due("a new object", x, 0, 0, 0);
        x.pass();
        due("a pass", x, 0, 1, 0);
        x.pass();
        due("two passes", x, 0, 2, 0);
        x.pass();
        due("three passes", x, 1, 1, 1);
        x.play(Setting.BEAST, 0);
        due("a play", x, 1, 2, 1);
        x.pass();
        due("a pass", x, 1, 0, 1);
        x.play(Setting.DENY, 0);
        due("a play of another", x, 1, 1, 1);
        x.settle(1);
        due("an effect", x, 1, 1, 1);
        x.play(Setting.BEAST, 0);
        x.pass();
        x.pass();
        x.pass();
        due("an effect by passes", x, 1, 1, 1);
        x.pass();
        x.settle(9);
        due("nothing to settle", x, 1, 2, 1);
        x.play(Setting.STRIKE, 0);
        x.settle(9);
        due("settled", x, 1, 1, 1);
        Setting.passTurn(x);
        due("the next turn", x, 2, 2, 2);
        Setting.passTurn(x);
        due("round the table", x, 0, 0, 3);
        for (int i = 4; i < 40; i++) {
            Setting.passTurn(x);
            due("turn " + i, x, i % 3, i % 3, i);
        }
        Expect.finish();
    }

    private static void due(String what, LayeredTable x, int turn, int acting, int rounds) {
        Expect.same("promise 6: turn behind " + what, x.turn(), turn);
        Expect.same("promise 7: acting behind " + what, x.acting(), acting);
        Expect.same("promise 8: rounds behind " + what, x.rounds(), rounds);
    }
}
