import java.util.function.LongSupplier;

/** The edges of all calls together and of promise 1; each remark names the sentence of the document that is held. */
final class ObjectEdgesTest {
    private static final Class<IndexOutOfBoundsException> INDEX = IndexOutOfBoundsException.class;
    private static final Class<IllegalStateException> STATE = IllegalStateException.class;
    private static final Class<IllegalArgumentException> ARGUMENT = IllegalArgumentException.class;

    public static void main(String[] args) {
        testLastCall();
        testRefusedCalls();
        testFirstException();
        testRoundTheTable();
        testNothingOnNewTable();
        testNothingOnNewStack();
        testFirstPlayer();
        Expect.finish();
    }

    /** What it is: "An object is used for at most 512 calls after it has been made". */
    private static void testLastCall() {
        LayeredTable x = new LayeredTable();
        for (int call = 1; call <= 506; call++) {
            Expect.same("call " + call, x.pass(), call % 3 == 0 ? LayeredTable.TURNED : LayeredTable.PASSED);
        }
        Expect.same("call 507, the turn", x.turn(), 0);
        Expect.same("call 508, who acts", x.acting(), 2);
        Expect.same("call 509, the rounds", x.rounds(), 168);
        Expect.same("call 510, coins", x.coins(0), 174);
        Expect.same("call 511, coins", x.coins(1), 174);
        Expect.same("call 512, coins", x.coins(2), 174);
    }

    /** Terms: "A call that throws an exception changes nothing". */
    private static void testRefusedCalls() {
        Twins.stayAlike("refused calls", ObjectEdgesTest::makeRefusedCalls);
    }

    private static void makeRefusedCalls(LayeredTable x) {
        Expect.thrown("play(-1, 0)", INDEX, () -> x.play(-1, 0));
        Expect.thrown("play(14, 0)", INDEX, () -> x.play(14, 0));
        Expect.thrown("a STRIKE at nothing", STATE, () -> x.play(Setting.STRIKE, 10));
        Expect.thrown("a DENY of nothing", STATE, () -> x.play(Setting.DENY, 12));
        Expect.thrown("a thing that is not of the turn", STATE, () -> x.play(Setting.BEAST, 0));
        Expect.thrown("obstacle(14, 0)", INDEX, () -> x.obstacle(14, 0));
        Expect.thrown("settle(0)", ARGUMENT, () -> x.settle(0));
        Expect.thrown("settle(61)", ARGUMENT, () -> x.settle(61));
        Expect.thrown("coins(3)", INDEX, () -> x.coins(3));
        Expect.thrown("power(3)", INDEX, () -> x.power(3));
        Expect.thrown("cardOf(10)", INDEX, () -> x.cardOf(10));
        Expect.thrown("controllerOf(0, 6)", ARGUMENT, () -> x.controllerOf(0, 6));
        Expect.thrown("kindsOf(0, 6)", ARGUMENT, () -> x.kindsOf(0, 6));
        Expect.thrown("strengthOf(0, 6)", ARGUMENT, () -> x.strengthOf(0, 6));
        Expect.thrown("controllerOf(10, 0)", INDEX, () -> x.controllerOf(10, 0));
        Expect.thrown("kindsOf(10, 0)", INDEX, () -> x.kindsOf(10, 0));
        Expect.thrown("strengthOf(10, 0)", INDEX, () -> x.strengthOf(10, 0));
        Expect.thrown("entryCard(12)", INDEX, () -> x.entryCard(12));
        Expect.thrown("isTrigger(12)", INDEX, () -> x.isTrigger(12) ? 1 : 0);
        Expect.thrown("entryPlayer(12)", INDEX, () -> x.entryPlayer(12));
        Expect.thrown("entryTarget(12)", INDEX, () -> x.entryTarget(12));
    }

    /** Terms: "if several exceptions apply, the one that its @throws lines name first is thrown". */
    private static void testFirstException() {
        LayeredTable x = Setting.withStrikes(12);
        Expect.thrown("no such card on a full stack", INDEX, () -> x.play(14, 0));
        Expect.thrown("no such card and no such target", INDEX, () -> x.play(-1, -1));
        int[] places = {-1, 1};
        int[] layers = {-1, 6};
        for (int place : places) {
            for (int layer : layers) {
                first("controllerOf", place, layer, () -> x.controllerOf(place, layer));
                first("kindsOf", place, layer, () -> x.kindsOf(place, layer));
                first("strengthOf", place, layer, () -> x.strengthOf(place, layer));
            }
        }
    }

    private static void first(String call, int place, int layer, LongSupplier answer) {
        Expect.thrown(call + "(" + place + ", " + layer + ")", INDEX, answer);
    }

    /** Terms: "The players are 0, 1 and 2, in this order round the table": behind 2 comes 0. */
    private static void testRoundTheTable() {
        LayeredTable x = new LayeredTable();
        x.pass();
        x.pass();
        Expect.same("player 2 may act", x.acting(), 2);
        x.pass();
        x.pass();
        x.pass();
        Expect.same("behind player 2 acts player 0", x.acting(), 0);
        x.pass();
        Expect.same("behind player 1 comes the turn of 2", x.turn(), 2);
        x.play(Setting.BEAST, 0);
        Expect.same("behind a play of player 2 acts player 0", x.acting(), 0);
        x.settle(1);
        Setting.passTurn(x);
        Expect.same("behind player 2 comes the turn of 0", x.turn(), 0);
    }

    /** Promise 1: "An empty table". */
    private static void testNothingOnNewTable() {
        LayeredTable x = new LayeredTable();
        Expect.same("things", x.things(), 0);
        Expect.thrown("cardOf(0)", INDEX, () -> x.cardOf(0));
        Expect.thrown("controllerOf(0, 0)", INDEX, () -> x.controllerOf(0, 0));
        Expect.thrown("kindsOf(0, 5)", INDEX, () -> x.kindsOf(0, 5));
        Expect.thrown("strengthOf(0, 5)", INDEX, () -> x.strengthOf(0, 5));
        Expect.same("power", x.power(0) + x.power(1) + x.power(2), 0);
        Expect.same("a STRIKE", x.obstacle(Setting.STRIKE, 0), LayeredTable.NO_TARGET);
        Expect.same("a CROWN", x.obstacle(Setting.CROWN, 0), LayeredTable.NO_TARGET);
    }

    /** Promise 1: "and an empty stack". */
    private static void testNothingOnNewStack() {
        LayeredTable x = new LayeredTable();
        Expect.same("stack", x.stack(), 0);
        Expect.thrown("entryCard(0)", INDEX, () -> x.entryCard(0));
        Expect.thrown("isTrigger(0)", INDEX, () -> x.isTrigger(0) ? 1 : 0);
        Expect.thrown("entryPlayer(0)", INDEX, () -> x.entryPlayer(0));
        Expect.thrown("entryTarget(0)", INDEX, () -> x.entryTarget(0));
        Expect.same("a DENY", x.obstacle(Setting.DENY, 0), LayeredTable.NO_TARGET);
        Expect.same("settle", x.settle(60), 0);
    }

    /** Promise 1: "each player has 6 coins; the player 0 has the turn and may act". */
    private static void testFirstPlayer() {
        LayeredTable x = new LayeredTable();
        Expect.text("coins", Setting.coins(x), "6 6 6");
        Expect.same("the turn", x.turn(), 0);
        Expect.same("who may act", x.acting(), 0);
        Expect.same("a thing can be played", x.obstacle(Setting.BEAST, 0), LayeredTable.PLAYABLE);
    }
}
