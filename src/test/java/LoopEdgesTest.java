/**
 * The edges of promise 9 and of the loops; each remark names the sentence of the document that is held.
 *
 * <p>Two of its words can be told by no call, and have no test: between two remembered states just triggers take
 * effect, so that a crown on the table has the same target in both if all else is the same; and when a loop is found
 * the stack is empty, so that a card must be played or a turn begin, which forgets as well, before there is a state.
 */
final class LoopEdgesTest {
    public static void main(String[] args) {
        testNoLoopAtFirst();
        testSameState();
        testFirstStateIsRemembered();
        testPlayerMakesADifference();
        testTargetOnTableMakesADifference();
        testCrownsTargetMakesADifference();
        testNothingCameOfIt();
        testStackBecomesEmpty();
        testThingsAndTurnStay();
        testForgottenWhenCardIsPlayed();
        testRememberedWhenPlayIsRefused();
        testForgottenWhenTurnBegins();
        testRememberedFromCallToCall();
        testLongestLoop();
        testMoreThanFortyStates();
        testNoLoopInManyStates();
        Expect.finish();
    }

    /** An ALTAR and a PYRE of player 0, in whose turn a BEAST enters: state and loop from then on. */
    private static LayeredTable withLoop() {
        LayeredTable x = Setting.settled(Setting.PYRE, 0, Setting.ALTAR, 0);
        Setting.reachTurn(x, 0, 8);
        x.play(Setting.BEAST, 0);
        x.settle(1);
        Expect.text("ahead of the loop", Setting.stack(x), "11!0");
        return x;
    }

    /** Promise 9: "Returns how many loops were found.": 0 at first, and one more with each. */
    private static void testNoLoopAtFirst() {
        Expect.same("a new object", new LayeredTable().loops(), 0);
        LayeredTable x = Setting.settled(Setting.PYRE, 0, Setting.ALTAR, 0);
        for (int loops = 0; loops < 4; loops++) {
            Expect.same("the loops", x.loops(), loops);
            Setting.reachTurn(x, 0, 2);
            x.play(Setting.BEAST, 0);
            x.settle(60);
        }
    }

    /** Loops: "If this is the same as one that is remembered": one effect ahead of that there is no loop yet. */
    private static void testSameState() {
        LayeredTable x = withLoop();
        x.settle(1);
        Expect.text("another state", Setting.stack(x), "10!0");
        Expect.same("no loop", x.loops(), 0);
        x.settle(1);
        Expect.same("the same state", x.loops(), 1);
    }

    /** Loops: "Each time when the top of the stack has taken effect": behind the very first effect, too. */
    private static void testFirstStateIsRemembered() {
        LayeredTable x = Setting.settled(Setting.PYRE, 0, Setting.ALTAR, 0);
        Setting.reachTurn(x, 0, 2);
        x.play(Setting.BEAST, 0);
        Expect.same("the BEAST, the ALTAR and the PYRE", x.settle(60), 3);
        Expect.same("a loop", x.loops(), 1);
    }

    /** Loops: "each with its card, the player who played it": the PYRE's BEAST is not that of player 2. */
    private static void testPlayerMakesADifference() {
        LayeredTable x = Setting.settled(Setting.PYRE, 0, Setting.ALTAR, 0);
        Setting.reachTurn(x, 2, 2);
        x.play(Setting.BEAST, 0);
        Expect.same("three effects", x.settle(3), 3);
        Expect.same("no loop", x.loops(), 0);
        Expect.same("the fourth makes the state behind the second", x.settle(60), 1);
        Expect.same("a loop", x.loops(), 1);
    }

    /** Loops: "and the place of its target (in the table [...] or that there is none there)", of a STRIKE. */
    private static void testTargetOnTableMakesADifference() {
        LayeredTable x = withLoop();
        x.settle(60);
        Expect.text("a BEAST is left", Setting.cards(x), "10 11 0");
        int loops = x.loops();
        x.play(Setting.STRIKE, 2);
        Setting.cast(x, Setting.STRIKE, 2);
        Expect.text("the PYRE has seen the BEAST leave", Setting.stack(x), "10!0 12.0");
        Expect.same("a loop without targets", x.settle(60), 2);
        Expect.same("is found", x.loops(), loops + 1);
        Expect.text("with what lies below it", Setting.stack(x), "");

        x = Setting.settled(Setting.PYRE, 0, Setting.ALTAR, 0, Setting.MASK, 0);
        Setting.reachTurn(x, 0, 5);
        x.play(Setting.BEAST, 0);
        x.settle(60);
        loops = x.loops();
        x.play(Setting.STRIKE, 3);
        Setting.cast(x, Setting.STRIKE, 2);
        Expect.text("the STRIKE has its target", Setting.stack(x), "10!0 12.0>2");
        Expect.same("its target leaves with the second of them", x.settle(3), 3);
        Expect.same("and is no loop", x.loops(), loops);
        Expect.same("one effect more", x.settle(60), 1);
        Expect.same("is one", x.loops(), loops + 1);
    }

    /** Loops, as above, of a CROWN that waits on the stack. */
    private static void testCrownsTargetMakesADifference() {
        LayeredTable x = Setting.settled(Setting.PYRE, 0, Setting.ALTAR, 0, Setting.MASK, 0);
        Setting.reachTurn(x, 0, 9);
        x.play(Setting.BEAST, 0);
        x.settle(60);
        int loops = x.loops();
        x.play(Setting.CROWN, 3);
        Setting.cast(x, Setting.STRIKE, 2);
        Expect.text("the CROWN has its target", Setting.stack(x), "10!0 7.0>2");
        Expect.same("its target leaves with the second of them", x.settle(3), 3);
        Expect.text("so that the state is another", Setting.stack(x), "11!0 7.0");
        Expect.same("and no loop", x.loops(), loops);
        Expect.same("one effect more", x.settle(60), 1);
        Expect.same("is one", x.loops(), loops + 1);
        Expect.text("the CROWN is gone", Setting.cards(x) + Setting.stack(x), "10 11 0");
    }

    /** Loops: "also if nothing came of it": the state behind a DENY without target is the one that comes back. */
    private static void testNothingCameOfIt() {
        LayeredTable x = withLoop();
        x.play(Setting.STRIKE, 0);
        x.play(Setting.DENY, 0);
        x.play(Setting.DENY, 1);
        x.settle(1);
        Expect.text("a DENY without target", Setting.stack(x), "13.1 11!0");
        x.settle(1);
        Expect.text("nothing came of it", Setting.stack(x), "11!0");
        x.settle(1);
        Expect.same("no loop yet", x.loops(), 0);
        x.settle(1);
        Expect.same("the state behind the DENY", x.loops(), 1);
    }

    /** Loops: "the stack becomes empty": what lies below the loop is gone, without effect. */
    private static void testStackBecomesEmpty() {
        LayeredTable x = Setting.settled(Setting.PYRE, 0, Setting.ALTAR, 0, Setting.BELL, 1, Setting.MASK, 0);
        Setting.reachTurn(x, 0, 9);
        x.play(Setting.BEAST, 0);
        x.settle(60);
        Expect.same("a loop", x.loops(), 1);
        x.play(Setting.STRIKE, 1);
        x.play(Setting.STRIKE, 2);
        Setting.cast(x, Setting.STRIKE, 3);
        x.settle(60);
        Expect.same("another loop", x.loops(), 2);
        Expect.same("the stack is empty", x.stack(), 0);
        Expect.text("neither STRIKE has hit", Setting.cards(x), "10 11 9 0");
    }

    /** Loops, as above, and nothing else changes: the things, the turn and the coins stay. */
    private static void testThingsAndTurnStay() {
        LayeredTable x = withLoop();
        String coins = Setting.coins(x);
        int rounds = x.rounds();
        x.settle(60);
        Expect.same("a loop", x.loops(), 1);
        Expect.text("the things", Setting.cards(x), "10 11 0");
        Expect.text("the coins", Setting.coins(x), coins);
        Expect.same("the rounds", x.rounds(), rounds);
        Expect.same("the turn", x.turn(), 0);
        Expect.same("who may act", x.acting(), 0);
        Setting.passTurn(x);
    }

    /** Loops: "They are also forgotten when a card is played": the state ahead of the plays comes back as a new one. */
    private static void testForgottenWhenCardIsPlayed() {
        LayeredTable x = withLoop();
        x.settle(1);
        Expect.text("a state", Setting.stack(x), "10!0");
        x.play(Setting.STRIKE, 0);
        x.play(Setting.DENY, 0);
        x.settle(1);
        Expect.text("it comes back", Setting.stack(x), "10!0");
        Expect.same("it was forgotten", x.loops(), 0);
        x.settle(1);
        Expect.same("so was the one ahead of it", x.loops(), 0);
        x.settle(1);
        Expect.same("but it is remembered now", x.loops(), 1);
    }

    /** Loops, as above: a play that is refused forgets nothing, and neither do passes and questions. */
    private static void testRememberedWhenPlayIsRefused() {
        LayeredTable x = withLoop();
        x.settle(1);
        Expect.thrown("a refused play", IllegalStateException.class, () -> x.play(Setting.MASK, 0));
        Expect.thrown("no card", IndexOutOfBoundsException.class, () -> x.play(14, 0));
        x.obstacle(Setting.STRIKE, 0);
        x.pass();
        x.pass();
        x.settle(1);
        Expect.same("a loop", x.loops(), 1);
    }

    /** Loops: "or a turn begins": the TOWER's trigger leaves the same state behind it in each round. */
    private static void testForgottenWhenTurnBegins() {
        LayeredTable x = Setting.with(Setting.TOWER, 0);
        for (int round = 0; round < 4; round++) {
            Setting.reachTurn(x, 2, 0);
            Setting.passTurn(x);
            Expect.same("the TOWER's trigger", x.stack(), 1);
            x.settle(1);
            Expect.text("the same state", Setting.cards(x) + Setting.stack(x), "1");
            Expect.same("no loop", x.loops(), 0);
        }
    }

    /** Loops, Terms: a state is remembered from call to call, by whichever call the top has taken effect. */
    private static void testRememberedFromCallToCall() {
        LayeredTable x = withLoop();
        x.settle(1);
        x.pass();
        x.pass();
        Expect.same("by passes", x.pass(), LayeredTable.RESOLVED);
        Expect.same("a loop", x.loops(), 1);
        x = withLoop();
        x.pass();
        x.pass();
        Expect.same("by passes", x.pass(), LayeredTable.RESOLVED);
        x.settle(1);
        Expect.same("a loop", x.loops(), 1);
    }

    /** Loops: "Only the latest 40 are remembered": the longest loop that ten things can make has nine effects. */
    private static void testLongestLoop() {
        LayeredTable x = new LayeredTable();
        Setting.lay(x, 0, Setting.ALTAR, 0);
        for (int i = 0; i < 7; i++) {
            Setting.lay(x, 0, Setting.BELL, 0);
            x.settle(60);
        }
        Setting.lay(x, 0, Setting.PYRE, 0);
        x.settle(60);
        Setting.reachTurn(x, 0, 2);
        x.play(Setting.BEAST, 0);
        Expect.same("its state is there", x.settle(1), 1);
        Expect.same("the stack", x.stack(), 8);
        Expect.same("eight effects", x.settle(8), 8);
        Expect.same("no loop yet", x.loops(), 0);
        Expect.same("the ninth", x.settle(60), 1);
        Expect.same("a loop", x.loops(), 1);
    }

    /** Loops, as above: a loop is found though more than 40 other states come first. */
    private static void testMoreThanFortyStates() {
        LayeredTable x = Setting.with(Setting.PYRE, 2, Setting.BELL, 2, Setting.ALTAR, 1, Setting.PYRE, 2,
            Setting.BELL, 1, Setting.BEAST, 1);
        Expect.same("no loop in 43", x.settle(43), 43);
        Expect.same("no loop in 43", x.loops(), 0);
        Expect.same("the 44th state has been", x.settle(60), 1);
        Expect.same("a loop", x.loops(), 1);
        Expect.same("the stack is empty", x.stack(), 0);
    }

    /** Loops, as above: 134 effects, each behind another state, are no loop. */
    private static void testNoLoopInManyStates() {
        LayeredTable x = Setting.with(Setting.ALTAR, 1, Setting.BELL, 0, Setting.PYRE, 1, Setting.BELL, 0,
            Setting.ALTAR, 1);
        Setting.reachTurn(x, 2, 2);
        x.play(Setting.BEAST, 0);
        int effects = x.settle(60) + x.settle(60) + x.settle(60);
        Expect.same("the effects", effects, 134);
        Expect.same("no loop", x.loops(), 0);
    }
}
