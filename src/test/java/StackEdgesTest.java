import java.util.function.IntUnaryOperator;

/** The edges of promises 17 to 21; each remark names the sentence of the document that is held. */
final class StackEdgesTest {
    private static final int[] BESIDE_TWO = {Integer.MIN_VALUE, -2, -1, 2, 3, 11, 12, Integer.MAX_VALUE};

    public static void main(String[] args) {
        testEmptyStack();
        testFullStack();
        testCardRange();
        testTriggerRange();
        testPlayerRange();
        testTargetRange();
        testPlacesOfFullStack();
        testPlacesOfEmptyStack();
        testTopIsPlaceZero();
        testCardOfTrigger();
        testPlayerOfEntry();
        testNoTarget();
        testTargetNowOnTable();
        testTargetGoneFromTable();
        testTargetNowOnStack();
        testTargetGoneFromStack();
        testTargetOfCrown();
        Expect.finish();
    }

    /** Promise 17: "Returns the number of entries of the stack.": 0 on the empty one. */
    private static void testEmptyStack() {
        LayeredTable x = new LayeredTable();
        Expect.same("a new object", x.stack(), 0);
        x.play(Setting.BEAST, 0);
        Expect.same("one", x.stack(), 1);
        x.settle(1);
        Expect.same("none", x.stack(), 0);
    }

    /** Terms: "The stack has at most 12 entries": 12 on the full one, and a refused play makes no more. */
    private static void testFullStack() {
        LayeredTable x = Setting.withStrikes(12);
        Expect.thrown("one more", IllegalStateException.class, () -> x.play(Setting.STRIKE, 0));
        Expect.same("twelve", x.stack(), 12);
        x.settle(1);
        Expect.same("eleven", x.stack(), 11);
        Expect.same("twelve", x.play(Setting.DENY, 10), 12);
    }

    private static LayeredTable twoEntries() {
        LayeredTable x = Setting.with(Setting.BELL, 1, Setting.MASK, 2);
        x.play(Setting.STRIKE, 1);
        Expect.text("two entries", Setting.stack(x), "12.2>1 9!1");
        return x;
    }

    private static void range(String call, int first, int last, LayeredTable x, IntUnaryOperator answer) {
        for (int place : BESIDE_TWO) {
            Expect.thrown(call + "(" + place + ")", IndexOutOfBoundsException.class, () -> answer.applyAsInt(place));
        }
        Expect.same(call + " of the top", answer.applyAsInt(0), first);
        Expect.same(call + " of the bottom", answer.applyAsInt(1), last);
        Expect.text("still two entries", Setting.stack(x), "12.2>1 9!1");
    }

    /** Promise 18: "Throws IndexOutOfBoundsException if there is no such entry". */
    private static void testCardRange() {
        LayeredTable x = twoEntries();
        range("entryCard", Setting.STRIKE, Setting.BELL, x, x::entryCard);
    }

    /** Promise 19: "Throws IndexOutOfBoundsException if there is no such entry". */
    private static void testTriggerRange() {
        LayeredTable x = twoEntries();
        range("isTrigger", 0, 1, x, place -> x.isTrigger(place) ? 1 : 0);
    }

    /** Promise 20: "Throws IndexOutOfBoundsException if there is no such entry". */
    private static void testPlayerRange() {
        LayeredTable x = twoEntries();
        range("entryPlayer", 2, 1, x, x::entryPlayer);
    }

    /** Promise 21: "Throws IndexOutOfBoundsException if there is no such entry". */
    private static void testTargetRange() {
        LayeredTable x = twoEntries();
        range("entryTarget", 1, LayeredTable.NONE, x, x::entryTarget);
    }

    /** Promises 18 to 21, as above, on the full stack: the places are 0 to 11. */
    private static void testPlacesOfFullStack() {
        LayeredTable x = Setting.withStrikes(12);
        Expect.same("the bottom's card", x.entryCard(11), Setting.STRIKE);
        Expect.same("the bottom is no trigger", x.isTrigger(11), false);
        Expect.same("the bottom's player", x.entryPlayer(11), 2);
        Expect.same("the bottom's target", x.entryTarget(11), 0);
        Expect.thrown("no card", IndexOutOfBoundsException.class, () -> x.entryCard(12));
        Expect.thrown("no trigger", IndexOutOfBoundsException.class, () -> x.isTrigger(12) ? 1 : 0);
        Expect.thrown("no player", IndexOutOfBoundsException.class, () -> x.entryPlayer(12));
        Expect.thrown("no target", IndexOutOfBoundsException.class, () -> x.entryTarget(12));
    }

    /** Promises 18 to 21, as above, when the stack is empty again: what took effect has no place any more. */
    private static void testPlacesOfEmptyStack() {
        LayeredTable x = Setting.withStrikes(1);
        x.settle(1);
        Expect.thrown("no card", IndexOutOfBoundsException.class, () -> x.entryCard(0));
        Expect.thrown("no trigger", IndexOutOfBoundsException.class, () -> x.isTrigger(0) ? 1 : 0);
        Expect.thrown("no player", IndexOutOfBoundsException.class, () -> x.entryPlayer(0));
        Expect.thrown("no target", IndexOutOfBoundsException.class, () -> x.entryTarget(0));
    }

    /** Promises 18 to 21: "0 for the top": each entry moves by one place with each play and each effect. */
    private static void testTopIsPlaceZero() {
        LayeredTable x = new LayeredTable();
        x.play(Setting.BEAST, 0);
        Expect.same("the BEAST on top", x.entryCard(0), Setting.BEAST);
        x.play(Setting.DENY, 0);
        Expect.same("the DENY on top", x.entryCard(0), Setting.DENY);
        Expect.same("the BEAST below it", x.entryCard(1), Setting.BEAST);
        x.play(Setting.DENY, 0);
        Expect.same("the BEAST two below", x.entryCard(2), Setting.BEAST);
        x.settle(1);
        Expect.same("the BEAST on top again", x.entryCard(0), Setting.BEAST);
    }

    /** Promise 18: "of a trigger the card of the thing that has it", also when that has left. */
    private static void testCardOfTrigger() {
        LayeredTable x = Setting.with(Setting.BELL, 0, Setting.ALTAR, 1, Setting.MASK, 2);
        Expect.same("the ALTAR's", x.entryCard(0), Setting.ALTAR);
        Expect.same("the BELL's", x.entryCard(1), Setting.BELL);
        x.play(Setting.STRIKE, 0);
        x.settle(1);
        Expect.text("the BELL has left", Setting.cards(x), "11 5");
        Expect.same("the BELL's still", x.entryCard(1), Setting.BELL);
        Expect.same("a trigger still", x.isTrigger(1), true);
    }

    /** Promise 20: "the player who played the card, or whose trigger it is": neither who has the turn nor acts. */
    private static void testPlayerOfEntry() {
        LayeredTable x = Setting.with(Setting.BELL, 1, Setting.MASK, 2);
        Expect.same("the trigger's controller", x.entryPlayer(0), 1);
        Expect.same("is not whose turn it is", x.turn(), 2);
        x.pass();
        x.play(Setting.STRIKE, 0);
        Expect.same("who played the card", x.entryPlayer(0), 0);
        Expect.same("is not who may act", x.acting(), 1);
    }

    /** Promise 21: "NONE if [...] the entry has no target": a trigger, and a thing that is no CROWN. */
    private static void testNoTarget() {
        for (int card = 0; card < Setting.STRIKE; card++) {
            LayeredTable x = Setting.with(Setting.MASK, 0, Setting.VEIL, 1);
            Setting.reachTurn(x, 0, 4);
            x.play(card, 1);
            Expect.same("the target of " + card, x.entryTarget(0), card == Setting.CROWN ? 1 : LayeredTable.NONE);
        }
        LayeredTable x = Setting.with(Setting.BELL, 0, Setting.ALTAR, 1, Setting.BEAST, 2);
        Expect.same("an ALTAR's trigger", x.entryTarget(0), LayeredTable.NONE);
        Expect.same("a BELL's trigger", x.entryTarget(1), LayeredTable.NONE);
    }

    /** Promise 21: "the place where the target is now, in the table": it moves up, and not when others enter. */
    private static void testTargetNowOnTable() {
        LayeredTable x = Setting.with(Setting.PYRE, 0, Setting.MASK, 1, Setting.VEIL, 2);
        x.play(Setting.STRIKE, 2);
        x.play(Setting.STRIKE, 1);
        Expect.text("at first", Setting.stack(x), "12.0>1 12.2>2");
        x.settle(1);
        Expect.same("it has moved up", x.entryTarget(1), 1);
        x.settle(1);
        Expect.same("a BEAST enters behind it", x.entryTarget(0), 1);
        x.play(Setting.STRIKE, 2);
        x.settle(1);
        Expect.same("the BEAST leaves behind it", x.entryTarget(1), 1);
    }

    /** Promise 21: "NONE if it is there no more", though another thing has its place. */
    private static void testTargetGoneFromTable() {
        LayeredTable x = Setting.with(Setting.MASK, 0, Setting.VEIL, 1);
        x.play(Setting.STRIKE, 0);
        x.play(Setting.STRIKE, 0);
        x.settle(1);
        Expect.text("the VEIL has the place", Setting.cards(x), "6");
        Expect.same("but is not the target", x.entryTarget(0), LayeredTable.NONE);
    }

    /** Promise 21: "or, for DENY, in the stack": it moves with what comes and goes above it. */
    private static void testTargetNowOnStack() {
        LayeredTable x = Setting.withStrikes(2);
        x.play(Setting.DENY, 1);
        Expect.same("two below the DENY", x.entryTarget(0), 2);
        x.play(Setting.STRIKE, 0);
        Expect.same("a STRIKE above the DENY", x.entryTarget(1), 3);
        x.play(Setting.DENY, 2);
        Expect.text("a DENY of what lies between", Setting.stack(x), "13.0>3 12.2>0 13.1>4 12.0>0 12.2>0");
        x.settle(1);
        Expect.text("it lies between no more", Setting.stack(x), "12.2>0 13.1>2 12.2>0");
        x = Setting.withStrikes(3);
        x.play(Setting.DENY, 0);
        x.play(Setting.DENY, 3);
        Expect.text("two DENYs", Setting.stack(x), "13.0>4 13.2>2 12.1>0 12.0>0 12.2>0");
        x.settle(1);
        Expect.text("what lay below the target is gone", Setting.stack(x), "13.2>1 12.1>0 12.0>0");
        x.settle(1);
        Expect.text("and so is the target", Setting.stack(x), "12.0>0");
    }

    /** Promise 21: "NONE if it is there no more", for a DENY: another DENY has taken its target. */
    private static void testTargetGoneFromStack() {
        LayeredTable x = Setting.withStrikes(2);
        x.play(Setting.DENY, 0);
        x.play(Setting.DENY, 1);
        x.settle(1);
        Expect.same("the target is gone", x.entryTarget(0), LayeredTable.NONE);
        Expect.same("another STRIKE is there", x.entryCard(1), Setting.STRIKE);
        x.play(Setting.STRIKE, 0);
        Expect.same("nor is a later card the target", x.entryTarget(1), LayeredTable.NONE);
    }

    /** Promise 21, as above, for a CROWN: on the stack its target is looked for on the table. */
    private static void testTargetOfCrown() {
        LayeredTable x = Setting.with(Setting.MASK, 0, Setting.VEIL, 0);
        Setting.reachTurn(x, 1, 4);
        x.play(Setting.CROWN, 1);
        Expect.same("at first", x.entryTarget(0), 1);
        x.play(Setting.STRIKE, 0);
        x.settle(1);
        Expect.same("it has moved up", x.entryTarget(0), 0);
        x.play(Setting.STRIKE, 0);
        x.settle(1);
        Expect.same("it has left", x.entryTarget(0), LayeredTable.NONE);
    }
}
