/** The edges of promises 4 to 8 and of the turns; each remark names the sentence of the document that is held. */
final class PassEdgesTest {
    public static void main(String[] args) {
        testNextActs();
        testThreePasses();
        testPlayBetweenPasses();
        testEffectBetweenPasses();
        testSettleBetweenPasses();
        testNothingHappensBetweenPasses();
        testTopTakesEffect();
        testTakenFromStackBefore();
        testTurnPlayerActsBehindEffect();
        testLastEntryIsNoTurn();
        testNextTurn();
        testCoinsOfTurn();
        testTriggersOfTurn();
        testSettleEmptyStack();
        testSettleSome();
        testSettleUntilEmpty();
        testSettleMost();
        testSettleLikePasses();
        testSettleRange();
        testFirstTurnIsNotCounted();
        Expect.finish();
    }

    private static void pass(String what, LayeredTable x, int due) {
        Expect.same(what + ": pass()", x.pass(), due);
    }

    /** Turns: "Whoever passes lets the next player act": behind player 2 it is player 0. */
    private static void testNextActs() {
        LayeredTable x = new LayeredTable();
        Setting.reachTurn(x, 1, 0);
        pass("player 1", x, LayeredTable.PASSED);
        Expect.same("behind player 1", x.acting(), 2);
        pass("player 2", x, LayeredTable.PASSED);
        Expect.same("behind player 2", x.acting(), 0);
    }

    /** Turns: "When three players have passed one after the other": two are too few, on both stacks. */
    private static void testThreePasses() {
        LayeredTable x = new LayeredTable();
        x.play(Setting.BEAST, 0);
        pass("one", x, LayeredTable.PASSED);
        pass("two", x, LayeredTable.PASSED);
        Expect.same("no effect behind two", x.things(), 0);
        pass("three", x, LayeredTable.RESOLVED);
        Expect.same("the effect", x.things(), 1);
        pass("one", x, LayeredTable.PASSED);
        pass("two", x, LayeredTable.PASSED);
        Expect.same("no turn behind two", x.rounds(), 0);
        pass("three", x, LayeredTable.TURNED);
        Expect.same("the turn", x.rounds(), 1);
        pass("it begins anew", x, LayeredTable.PASSED);
    }

    /** Turns: "nothing else having happened": a card that is played makes three more passes due. */
    private static void testPlayBetweenPasses() {
        for (int passes = 1; passes <= 2; passes++) {
            LayeredTable x = Setting.with(Setting.BEAST, 0);
            for (int i = 0; i < passes; i++) {
                pass("ahead of the play", x, LayeredTable.PASSED);
            }
            x.play(Setting.STRIKE, 0);
            pass("one", x, LayeredTable.PASSED);
            pass("two", x, LayeredTable.PASSED);
            pass("three", x, LayeredTable.RESOLVED);
        }
    }

    /** Turns, as above: an effect by passes makes three more passes due. */
    private static void testEffectBetweenPasses() {
        LayeredTable x = Setting.withStrikes(2);
        for (int i = 0; i < 2; i++) {
            pass("one", x, LayeredTable.PASSED);
            pass("two", x, LayeredTable.PASSED);
            pass("three", x, LayeredTable.RESOLVED);
        }
        pass("one", x, LayeredTable.PASSED);
    }

    /** Turns, as above: an effect by settle makes three more passes due. */
    private static void testSettleBetweenPasses() {
        for (int passes = 1; passes <= 2; passes++) {
            LayeredTable x = Setting.withStrikes(2);
            for (int i = 0; i < passes; i++) {
                pass("ahead of settle", x, LayeredTable.PASSED);
            }
            x.settle(1);
            pass("one", x, LayeredTable.PASSED);
            pass("two", x, LayeredTable.PASSED);
            pass("three", x, LayeredTable.RESOLVED);
        }
    }

    /** Turns, as above: a question, a refused call and a settle of nothing are nothing that has happened. */
    private static void testNothingHappensBetweenPasses() {
        LayeredTable x = Setting.with(Setting.BEAST, 0);
        pass("one", x, LayeredTable.PASSED);
        x.obstacle(Setting.STRIKE, 0);
        Setting.whole(x);
        pass("two", x, LayeredTable.PASSED);
        Expect.thrown("a refused play", IllegalStateException.class, () -> x.play(Setting.MASK, 0));
        Expect.same("nothing to settle", x.settle(1), 0);
        pass("three", x, LayeredTable.TURNED);
    }

    /** Turns: "the top of the stack takes effect", one entry alone and the latest first. */
    private static void testTopTakesEffect() {
        LayeredTable x = Setting.with(Setting.MASK, 0, Setting.VEIL, 0);
        x.play(Setting.STRIKE, 0);
        x.play(Setting.STRIKE, 1);
        x.pass();
        x.pass();
        pass("the latest", x, LayeredTable.RESOLVED);
        Expect.text("the VEIL has left", Setting.cards(x), "5");
        Expect.text("the other STRIKE waits", Setting.stack(x), "12.0>0");
    }

    /** Turns: "is taken from the stack just before that": what it raises finds its room on the full stack. */
    private static void testTakenFromStackBefore() {
        LayeredTable x = Setting.with(Setting.PYRE, 0, Setting.MASK, 0);
        Setting.reachTurn(x, 0, 9);
        for (int i = 0; i < 12; i++) {
            x.play(Setting.STRIKE, 1);
        }
        x.pass();
        x.pass();
        pass("a full stack", x, LayeredTable.RESOLVED);
        Expect.same("it is full again", x.stack(), 12);
        Expect.same("by the PYRE's trigger", x.entryCard(0), Setting.PYRE);
        Expect.same("which is one", x.isTrigger(0), true);
        Expect.same("the next is a STRIKE", x.entryCard(1), Setting.STRIKE);
    }

    /** Turns: "and the player who has the turn may act", whoever has passed last. */
    private static void testTurnPlayerActsBehindEffect() {
        for (int strikes = 1; strikes <= 4; strikes++) {
            LayeredTable x = Setting.withStrikes(strikes);
            Expect.same("behind the plays", x.acting(), (2 + strikes) % 3);
            x.pass();
            x.pass();
            pass("the third", x, LayeredTable.RESOLVED);
            Expect.same("behind the effect of " + strikes, x.acting(), 2);
            Expect.same("the turn stays", x.turn(), 2);
        }
    }

    /** Turns: "if the stack is empty, the next player has the turn": not if the effect has just emptied it. */
    private static void testLastEntryIsNoTurn() {
        LayeredTable x = Setting.withStrikes(1);
        int rounds = x.rounds();
        x.pass();
        x.pass();
        pass("the last entry", x, LayeredTable.RESOLVED);
        Expect.same("the stack is empty", x.stack(), 0);
        Expect.same("no turn has begun", x.rounds(), rounds);
        Setting.passTurn(x);
        Expect.same("now it has", x.rounds(), rounds + 1);
    }

    /** Turns, promises 6 and 7: "the next player has the turn and may act": behind player 2 it is player 0. */
    private static void testNextTurn() {
        LayeredTable x = new LayeredTable();
        for (int turns = 1; turns <= 7; turns++) {
            Setting.passTurn(x);
            Expect.same("the turn", x.turn(), turns % 3);
            Expect.same("who may act", x.acting(), turns % 3);
        }
    }

    /** Turns: "gets 3 coins": with each turn that begins, not with the first one, and nobody else. */
    private static void testCoinsOfTurn() {
        LayeredTable x = new LayeredTable();
        String[] due = {"6 6 6", "6 9 6", "6 9 9", "9 9 9", "9 12 9"};
        for (String coins : due) {
            Expect.text("coins in the turn " + x.rounds(), Setting.coins(x), coins);
            Setting.passTurn(x);
        }
    }

    /** Turns: "and the triggers of that follow": on the stack, behind the coins and without effect yet. */
    private static void testTriggersOfTurn() {
        LayeredTable x = Setting.with(Setting.TOWER, 0);
        Setting.reachTurn(x, 2, 0);
        int coins = x.coins(0);
        Setting.passTurn(x);
        Expect.text("the trigger", Setting.stack(x), "1!0");
        Expect.same("three coins", x.coins(0), coins + 3);
        Expect.same("who may act", x.acting(), 0);
        x.settle(1);
        Expect.same("and two more", x.coins(0), coins + 5);
    }

    /** Promise 5: "If the stack is empty at first, nothing happens." */
    private static void testSettleEmptyStack() {
        Expect.same("on a new object", new LayeredTable().settle(60), 0);
        Twins.stayAlike("settle of nothing", Twins::aheadOfTurn, x -> {
            Expect.same("the least", x.settle(1), 0);
            Expect.same("the most", x.settle(60), 0);
        });
    }

    /** Promise 5: "but some entries at most": one less than there are, and just one. */
    private static void testSettleSome() {
        LayeredTable x = Setting.withStrikes(5);
        Expect.same("one", x.settle(1), 1);
        Expect.same("four are left", x.stack(), 4);
        Expect.same("three", x.settle(3), 3);
        Expect.same("one is left", x.stack(), 1);
    }

    /** Promise 5: "As long as the stack is not empty": as many as there are, or more than that. */
    private static void testSettleUntilEmpty() {
        LayeredTable x = Setting.withStrikes(12);
        Expect.same("just all", x.settle(12), 12);
        Expect.same("none is left", x.stack(), 0);
        Expect.same("none", x.settle(12), 0);
        x = Setting.withStrikes(12);
        Expect.same("one more than there are", x.settle(13), 12);
        x = Setting.withStrikes(12);
        Expect.same("far more than there are", x.settle(60), 12);
    }

    /** Promise 5: "entries: 1 to 60": all 60 take effect where more than 60 wait for it, with their triggers. */
    private static void testSettleMost() {
        LayeredTable x = Setting.with(Setting.ALTAR, 1, Setting.BELL, 0, Setting.PYRE, 1, Setting.BELL, 0,
            Setting.ALTAR, 1);
        Setting.reachTurn(x, 2, 2);
        x.play(Setting.BEAST, 0);
        Expect.same("59", x.settle(59), 59);
        Expect.same("60", x.settle(60), 60);
        Expect.same("the rest", x.settle(60), 15);
        Expect.same("none is left", x.stack(), 0);
    }

    /** Promise 5: "as if three players had passed": the player who has the turn may act, and no pass counts. */
    private static void testSettleLikePasses() {
        for (int passes = 0; passes <= 2; passes++) {
            LayeredTable x = Setting.withStrikes(3);
            for (int i = 0; i < passes; i++) {
                x.pass();
            }
            Expect.same("one", x.settle(1), 1);
            LayeredTable twin = Setting.withStrikes(3);
            twin.pass();
            twin.pass();
            twin.pass();
            for (int i = 0; i < 4; i++) {
                Expect.text("the state " + i, Setting.whole(x), Setting.whole(twin));
                Expect.same("the pass " + i, x.pass(), twin.pass());
            }
        }
    }

    /** Promise 5: "Throws IllegalArgumentException if entries is out of range", on the empty stack, too. */
    private static void testSettleRange() {
        int[] wrong = {Integer.MIN_VALUE, -1, 0, 61, 62, Integer.MAX_VALUE};
        for (int entries : wrong) {
            Twins.stayAlike("settle " + entries, x -> Expect.thrown("settle " + entries,
                IllegalArgumentException.class, () -> x.settle(entries)));
        }
        LayeredTable x = Setting.withStrikes(1);
        Expect.same("the most", x.settle(60), 1);
        x = Setting.withStrikes(1);
        Expect.same("the least", x.settle(1), 1);
    }

    /** Promise 8: "how many turns have begun; the first one is not counted". */
    private static void testFirstTurnIsNotCounted() {
        LayeredTable x = new LayeredTable();
        Expect.same("the first turn", x.rounds(), 0);
        x.play(Setting.BEAST, 0);
        x.settle(1);
        Expect.same("an effect begins none", x.rounds(), 0);
        x.pass();
        x.pass();
        Expect.same("nor do two passes", x.rounds(), 0);
        x.pass();
        Expect.same("the second turn", x.rounds(), 1);
        Setting.passTurn(x);
        Setting.passTurn(x);
        Expect.same("player 0 has the turn again", x.turn(), 0);
        Expect.same("the fourth turn", x.rounds(), 3);
    }
}
