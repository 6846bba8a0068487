/** Promise 4: pass. */
final class PassTest {
    public static void main(String[] args) {
        testTurns();
        testEffects();
        testEffectOfOneEntryAtATime();
        testSettleEndsPasses();
        testTowers();
        Expect.finish();
    }

    private static void testTurns() {
        LayeredTable x = new LayeredTable();
        for (int turn = 1; turn <= 7; turn++) {
            Expect.same("promise 4: the first pass", x.pass(), LayeredTable.PASSED);
            Expect.same("promise 4: the next acts", x.acting(), turn % 3);
            Expect.same("promise 4: the second pass", x.pass(), LayeredTable.PASSED);
            Expect.same("promise 4: the next acts", x.acting(), (turn + 1) % 3);
            Expect.same("promise 4: no turn has begun yet", x.rounds(), turn - 1);
            int coins = x.coins(turn % 3);
            Expect.same("promise 4: the third pass", x.pass(), LayeredTable.TURNED);
            Expect.same("promise 4: the turn", x.turn(), turn % 3);
            Expect.same("promise 4: who has it acts", x.acting(), turn % 3);
            Expect.same("promise 4: and gets coins", x.coins(turn % 3), coins + 3);
            Expect.same("promise 4: a turn has begun", x.rounds(), turn);
        }
        Expect.text("promise 4: nobody else gets coins", Setting.coins(x), "12 15 12");
    }

    private static void testEffects() {
        LayeredTable x = Setting.with(Setting.BEAST, 1);
        x.play(Setting.MASK, 0);
        Expect.same("promise 4: the first pass", x.pass(), LayeredTable.PASSED);
        Expect.same("promise 4: the second pass", x.pass(), LayeredTable.PASSED);
        Expect.same("promise 4: no effect yet", x.things(), 1);
        Expect.same("promise 4: the third pass", x.pass(), LayeredTable.RESOLVED);
        Expect.same("promise 4: the effect", x.things(), 2);
        Expect.same("promise 4: who has the turn acts", x.acting(), 1);
        Expect.same("promise 4: the turn stays", x.turn(), 1);
        Expect.same("promise 4: no turn has begun", x.rounds(), 1);
        Setting.passTurn(x);
    }

    private static void testEffectOfOneEntryAtATime() {
        LayeredTable x = Setting.with(Setting.BEAST, 0);
        x.play(Setting.STRIKE, 0);
        x.pass();
        x.play(Setting.DENY, 0);
        Expect.same("promise 4: acting behind a play", x.acting(), 0);
        x.pass();
        x.pass();
        Expect.same("promise 4: the DENY", x.pass(), LayeredTable.RESOLVED);
        Expect.same("promise 4: the turn's player acts", x.acting(), 0);
        Expect.same("promise 4: the stack is empty", x.stack(), 0);
        Expect.same("promise 4: the BEAST stays", x.things(), 1);

        x.play(Setting.STRIKE, 0);
        x.play(Setting.STRIKE, 0);
        for (int i = 2; i > 0; i--) {
            x.pass();
            x.pass();
            Expect.same("promise 4: the top", x.pass(), LayeredTable.RESOLVED);
            Expect.same("promise 4: one entry less", x.stack(), i - 1);
            Expect.same("promise 4: the turn's player acts", x.acting(), 0);
        }
        Setting.passTurn(x);
    }

    private static void testSettleEndsPasses() {
        LayeredTable x = Setting.with(Setting.BEAST, 0);
        x.play(Setting.MASK, 0);
        x.pass();
        x.pass();
        x.settle(1);
        Expect.same("promise 4: acting", x.acting(), 0);
        Setting.passTurn(x);
        x.pass();
        x.pass();
        Expect.same("promise 4: nothing to settle", x.settle(60), 0);
        Expect.same("promise 4: acting as before", x.acting(), 0);
        Expect.same("promise 4: the passes count", x.pass(), LayeredTable.TURNED);
    }

    private static void testTowers() {
        LayeredTable x = Setting.with(Setting.TOWER, 0, Setting.TOWER, 1, Setting.TOWER, 0);
        Expect.text("promise 4: no trigger in the same turn", Setting.stack(x), "");
        Setting.passTurn(x);
        Expect.text("promise 4: the TOWER of player 1", Setting.stack(x), "1!1");
        Expect.same("promise 4: no coins yet", x.coins(1), 9);
        x.pass();
        x.pass();
        Expect.same("promise 4: the trigger", x.pass(), LayeredTable.RESOLVED);
        Expect.text("promise 4: coins", Setting.coins(x), "5 11 9");
        Setting.passTurn(x);
        Expect.text("promise 4: no TOWER of player 2", Setting.stack(x), "");
        Setting.passTurn(x);
        Expect.text("promise 4: both TOWERs of player 0", Setting.stack(x), "1!0 1!0");
        x.settle(60);
        Expect.text("promise 4: coins", Setting.coins(x), "12 11 12");
    }
}
