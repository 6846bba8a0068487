/** Promise 5: settle. */
final class SettleTest {
    public static void main(String[] args) {
        testNothingToSettle();
        testSomeEntries();
        testTriggersCount();
        testMostEntries();
        testLoopEndsIt();
        testWrongEntries();
        Expect.finish();
    }

    private static void testNothingToSettle() {
        LayeredTable x = Setting.with(Setting.BEAST, 0);
        x.pass();
        String before = Setting.whole(x);
        Expect.same("promise 5: one of none", x.settle(1), 0);
        Expect.same("promise 5: 60 of none", x.settle(60), 0);
        Expect.text("promise 5: nothing happens", Setting.whole(x), before);
        Expect.same("promise 5: the second pass", x.pass(), LayeredTable.PASSED);
        Expect.same("promise 5: the third pass", x.pass(), LayeredTable.TURNED);
    }

    private static void testSomeEntries() {
        LayeredTable x = Setting.with(Setting.BEAST, 0, Setting.BANNER, 0, Setting.TIDE, 0, Setting.MASK, 0);
        x.play(Setting.STRIKE, 0);
        x.play(Setting.STRIKE, 0);
        x.play(Setting.STRIKE, 3);
        x.pass();
        Expect.same("promise 5: two of three", x.settle(2), 2);
        Expect.text("promise 5: the latest first", Setting.cards(x), "0 2 4");
        Expect.same("promise 5: one is left", x.stack(), 1);
        Expect.same("promise 5: the turn's player acts", x.acting(), 0);
        Expect.same("promise 5: 60 of one", x.settle(60), 1);
        Expect.text("promise 5: the last STRIKE", Setting.cards(x), "0 2 4");
        Expect.same("promise 5: no turn has begun", x.turn() + x.rounds(), 6);
    }

    private static void testTriggersCount() {
        LayeredTable x = Setting.with(Setting.BELL, 0, Setting.BELL, 1);
        x.settle(60);
        Setting.reachTurn(x, 2, 2);
        x.play(Setting.MASK, 0);
        Expect.same("promise 5: the thing and its triggers", x.settle(60), 3);
        x.play(Setting.MASK, 0);
        Expect.same("promise 5: just the thing", x.settle(1), 1);
        Expect.same("promise 5: two triggers are left", x.stack(), 2);
        Expect.same("promise 5: they take effect", x.settle(2), 2);
        Expect.same("promise 5: none are left", x.settle(2), 0);
    }

    /** This table settles after 134 effects, and no state comes back on the way. */
    private static void testMostEntries() {
        LayeredTable x = Setting.with(Setting.ALTAR, 1, Setting.BELL, 0, Setting.PYRE, 1, Setting.BELL, 0,
            Setting.ALTAR, 1);
        Setting.reachTurn(x, 2, 2);
        x.play(Setting.BEAST, 0);
        Expect.same("promise 5: at most 60", x.settle(60), 60);
        Expect.same("promise 5: not settled yet", x.stack() > 0, true);
        Expect.same("promise 5: at most 1", x.settle(1), 1);
        Expect.same("promise 5: 60 again", x.settle(60), 60);
        Expect.same("promise 5: the rest", x.settle(60), 13);
        Expect.same("promise 5: settled", x.stack(), 0);
        Expect.same("promise 5: without a loop", x.loops(), 0);
    }

    private static void testLoopEndsIt() {
        LayeredTable x = Setting.with(Setting.PYRE, 0, Setting.ALTAR, 1);
        Setting.reachTurn(x, 2, 2);
        x.play(Setting.BEAST, 0);
        Expect.same("promise 5: up to the end of the loop", x.settle(60), 4);
        Expect.same("promise 5: a loop", x.loops(), 1);
        Expect.same("promise 5: the stack is empty", x.stack(), 0);
        Expect.same("promise 5: the turn's player acts", x.acting(), 2);
    }

    private static void testWrongEntries() {
        LayeredTable x = Setting.with(Setting.BEAST, 0);
        x.play(Setting.MASK, 0);
        x.pass();
        x.pass();
        String before = Setting.whole(x);
        int[] wrong = {Integer.MIN_VALUE, -1, 0, 61, Integer.MAX_VALUE};
        for (int entries : wrong) {
            Expect.thrown("promise 5: settle(" + entries + ")", IllegalArgumentException.class,
                () -> x.settle(entries));
        }
        Expect.text("promise 5: a call that throws changes nothing", Setting.whole(x), before);
        Expect.same("promise 5: nor ends the passes", x.pass(), LayeredTable.RESOLVED);
        Expect.thrown("promise 5: settle(0) on an empty stack", IllegalArgumentException.class, () -> x.settle(0));
    }
}
