/** Promise 9: loops, and how they are found and broken off. */
final class LoopsTest {
    public static void main(String[] args) {
        testLoop();
        testPlayForgets();
        testTurnForgets();
        testTargetsMakeADifference();
        testLoopWithBells();
        testLoopBehindManyStates();
        testNoLoop();
        Expect.finish();
    }

    private static LayeredTable loopTable() {
        LayeredTable x = Setting.with(Setting.PYRE, 0, Setting.ALTAR, 1);
        Setting.reachTurn(x, 2, 2);
        return x;
    }

    private static void testLoop() {
        LayeredTable x = loopTable();
        x.play(Setting.BEAST, 0);
        x.settle(1);
        Expect.text("promise 9: the ALTAR sees the BEAST of player 2", Setting.stack(x), "11!1");
        x.settle(1);
        Expect.text("promise 9: the PYRE sees it leave", Setting.stack(x), "10!0");
        x.settle(1);
        Expect.text("promise 9: the ALTAR sees the BEAST of player 0", Setting.stack(x), "11!1");
        Expect.same("promise 9: another player's BEAST is another state", x.loops(), 0);
        x.pass();
        x.pass();
        Expect.same("promise 9: the state that has been", x.pass(), LayeredTable.RESOLVED);
        Expect.same("promise 9: a loop", x.loops(), 1);
        Expect.same("promise 9: the stack becomes empty", x.stack(), 0);
        Expect.text("promise 9: the things stay", Setting.cards(x), "10 11");
        Expect.same("promise 9: the turn's player acts", x.acting(), 2);
        Expect.same("promise 9: the turn stays", x.turn(), 2);
        Setting.passTurn(x);
        Expect.same("promise 9: a turn counts no loop", x.loops(), 1);
        x.play(Setting.BEAST, 0);
        Expect.same("promise 9: player 0's BEAST is like the PYRE's", x.settle(60), 3);
        Expect.same("promise 9: a second loop", x.loops(), 2);
    }

    private static void testPlayForgets() {
        LayeredTable x = loopTable();
        x.play(Setting.BEAST, 0);
        x.settle(3);
        x.play(Setting.STRIKE, 0);
        x.play(Setting.DENY, 0);
        x.settle(1);
        Expect.text("promise 9: the stack as before the plays", Setting.stack(x), "11!1");
        Expect.same("promise 9: no loop", x.loops(), 0);
        x.settle(1);
        Expect.same("promise 9: the states ahead of the plays are forgotten", x.loops(), 0);
        Expect.text("promise 9: the stack", Setting.stack(x), "10!0");
        x.settle(1);
        Expect.same("promise 9: the state behind the plays is remembered", x.loops(), 1);
        Expect.text("promise 9: the stack", Setting.stack(x), "");
        Expect.text("promise 9: the BEAST stays", Setting.cards(x), "10 11 0");
    }

    /** The same state, an empty stack and the same table, stands in two turns. */
    private static void testTurnForgets() {
        LayeredTable x = Setting.with(Setting.TOWER, 0);
        for (int i = 0; i < 9; i++) {
            Setting.reachTurn(x, 2, 0);
            x.pass();
            x.pass();
            x.pass();
            Expect.same("promise 9: the TOWER", x.stack(), 1);
            x.settle(1);
            Expect.same("promise 9: the same state in another turn", x.loops(), 0);
        }
    }

    /** A STRIKE below the loop loses its target: the state behind differs from the one ahead by that alone. */
    private static void testTargetsMakeADifference() {
        LayeredTable x = Setting.with(Setting.PYRE, 0, Setting.ALTAR, 0, Setting.MASK, 0);
        x.settle(60);
        Setting.lay(x, 0, Setting.BEAST, 0);
        Expect.same("promise 9: the first loop", x.settle(60), 2);
        Expect.text("promise 9: a BEAST stays", Setting.cards(x), "10 11 5 0");
        Expect.same("promise 9: one loop", x.loops(), 1);
        x.play(Setting.STRIKE, 3);
        x.play(Setting.STRIKE, 2);
        x.settle(1);
        Expect.text("promise 9: the MASK leaves", Setting.stack(x), "10!0 12.0>2");
        Expect.text("promise 9: the table", Setting.cards(x), "10 11 0");
        x.settle(2);
        Expect.text("promise 9: the STRIKE has lost its target", Setting.stack(x), "10!0 12.0");
        Expect.text("promise 9: the table is the same", Setting.cards(x), "10 11 0");
        Expect.same("promise 9: but not the state", x.loops(), 1);
        Expect.same("promise 9: a round later", x.settle(60), 2);
        Expect.same("promise 9: the state is the same", x.loops(), 2);
        Expect.text("promise 9: the STRIKE is gone, too", Setting.stack(x), "");
        Expect.text("promise 9: a BEAST stays", Setting.cards(x), "10 11 0");
    }

    /** The ALTAR's trigger lies lowest, so that both BELLs ring in each round; coins are not of the state. */
    private static void testLoopWithBells() {
        LayeredTable x = Setting.with(Setting.ALTAR, 0, Setting.BELL, 0, Setting.BELL, 1);
        x.settle(60);
        Setting.lay(x, 0, Setting.PYRE, 0);
        x.settle(60);
        Setting.reachTurn(x, 0, 2);
        int first = x.coins(0);
        int second = x.coins(1);
        x.play(Setting.BEAST, 0);
        x.settle(1);
        Expect.text("promise 9: the triggers", Setting.stack(x), "9!1 9!0 11!0");
        Expect.same("promise 9: one round", x.settle(60), 4);
        Expect.same("promise 9: a loop", x.loops(), 1);
        Expect.same("promise 9: coins of player 0", x.coins(0) - first, -2 + 1);
        Expect.same("promise 9: coins of player 1", x.coins(1) - second, 1);
    }

    /** A round of it is found though its transient fills the memory: 44 states are behind it. */
    private static void testLoopBehindManyStates() {
        LayeredTable x = Setting.with(Setting.PYRE, 2, Setting.BELL, 2, Setting.ALTAR, 1, Setting.PYRE, 2,
            Setting.BELL, 1, Setting.BEAST, 1);
        Expect.same("promise 9: effects", x.settle(60), 44);
        Expect.same("promise 9: the loop is found in the end", x.loops(), 1);
        Expect.same("promise 9: the stack is empty", x.stack(), 0);
    }

    private static void testNoLoop() {
        LayeredTable x = Setting.with(Setting.BELL, 0, Setting.TOWER, 1);
        for (int i = 0; i < 3; i++) {
            Setting.lay(x, 2, Setting.BEAST, 0);
            x.settle(60);
            x.play(Setting.STRIKE, 2);
            x.settle(60);
            Expect.same("promise 9: a table that comes back is no loop", x.loops(), 0);
        }
    }
}
