/** Promise 10: coins, and what brings them. */
final class CoinsTest {
    public static void main(String[] args) {
        LayeredTable x = new LayeredTable();
        Expect.text("promise 10: at first", Setting.coins(x), "6 6 6");
        Setting.passTurn(x);
        Expect.text("promise 10: a turn", Setting.coins(x), "6 9 6");
        x.play(Setting.BELL, 0);
        Expect.text("promise 10: a BELL is paid at once", Setting.coins(x), "6 7 6");
        x.settle(60);
        Expect.text("promise 10: its own entering rings no BELL", Setting.coins(x), "6 7 6");
        x.play(Setting.BEAST, 0);
        x.settle(1);
        Expect.text("promise 10: the trigger has not taken effect", Setting.coins(x), "6 5 6");
        x.settle(1);
        Expect.text("promise 10: now it has", Setting.coins(x), "6 6 6");
        x.play(Setting.STRIKE, 1);
        x.settle(60);
        Expect.text("promise 10: leaving rings no BELL", Setting.coins(x), "6 5 6");
        Setting.passTurn(x);
        x.play(Setting.CROWN, 0);
        x.settle(60);
        Expect.text("promise 10: the BELL rings for its new controller", Setting.coins(x), "6 5 6");
        x.play(Setting.TOWER, 0);
        x.settle(60);
        Expect.text("promise 10: and again", Setting.coins(x), "6 5 4");
        Setting.passTurn(x);
        Setting.passTurn(x);
        Setting.passTurn(x);
        Expect.text("promise 10: ahead of the TOWER's trigger", Setting.coins(x), "9 8 7");
        x.settle(60);
        Expect.text("promise 10: behind it", Setting.coins(x), "9 8 9");
        testControllerThen();
        testWrongPlayers(x);
        Expect.finish();
    }

    /** The trigger stays with who was the controller then, though its BELL leaves. */
    private static void testControllerThen() {
        LayeredTable x = Setting.with(Setting.BELL, 0);
        Setting.lay(x, 1, Setting.BEAST, 0);
        Expect.text("promise 10: ahead of the BELL's trigger", Setting.coins(x), "4 7 6");
        x.play(Setting.STRIKE, 0);
        x.settle(1);
        Expect.text("promise 10: the BELL has left", Setting.cards(x), "0");
        x.settle(1);
        Expect.text("promise 10: and rings all the same", Setting.coins(x), "5 6 6");
    }

    private static void testWrongPlayers(LayeredTable x) {
        String before = Setting.whole(x);
        int[] players = {Integer.MIN_VALUE, -1, 3, Integer.MAX_VALUE};
        for (int player : players) {
            Expect.thrown("promise 10: coins(" + player + ")", IndexOutOfBoundsException.class,
                () -> x.coins(player));
        }
        Expect.text("promise 10: a call that throws changes nothing", Setting.whole(x), before);
    }
}
