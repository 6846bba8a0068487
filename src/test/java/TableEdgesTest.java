/** The edges of promises 10 to 12 and of entering the table; each remark names the sentence that is held. */
final class TableEdgesTest {
    private static final int[] NO_PLAYERS = {Integer.MIN_VALUE, -1, 3, 4, Integer.MAX_VALUE};

    public static void main(String[] args) {
        testPlayerRange();
        testNoCoins();
        testThingsOfEmptyTable();
        testPlaceRange();
        testPlacesOfEmptyTable();
        testPlacesOfFullTable();
        testLastPlaceIsFree();
        testEleventhThing();
        testEleventhThingHasNotEntered();
        testEleventhThingHasNotLeft();
        testEleventhThingHasNoEffect();
        testEntersAsLastOne();
        testOrderOfEntering();
        Expect.finish();
    }

    /** Promise 10: "player: 0 to 2", "Throws IndexOutOfBoundsException if there is no such player". */
    private static void testPlayerRange() {
        for (int player : NO_PLAYERS) {
            Twins.stayAlike("coins " + player, x -> Expect.thrown("coins " + player,
                IndexOutOfBoundsException.class, () -> x.coins(player)));
        }
        LayeredTable x = Setting.with(Setting.BEAST, 0);
        Expect.same("the first player", x.coins(0), 4);
        Expect.same("the last player", x.coins(2), 6);
    }

    /** Promise 10: "Returns the coins.": 0 when all are spent, and never less. */
    private static void testNoCoins() {
        LayeredTable x = Setting.withCoins(1);
        x.play(Setting.STRIKE, 0);
        Expect.same("all are spent", x.coins(0), 0);
        x.settle(60);
        Expect.thrown("one more", IllegalStateException.class, () -> x.play(Setting.STRIKE, 0));
        Expect.same("no fewer than none", x.coins(0), 0);
    }

    /** Promise 11: "Returns the number of things.": 0 at first, and again when the last one has left. */
    private static void testThingsOfEmptyTable() {
        LayeredTable x = new LayeredTable();
        Expect.same("a new object", x.things(), 0);
        x.play(Setting.BEAST, 0);
        Expect.same("a card on the stack is no thing", x.things(), 0);
        x.settle(1);
        Expect.same("one", x.things(), 1);
        x.play(Setting.STRIKE, 0);
        Expect.same("still one", x.things(), 1);
        x.settle(1);
        Expect.same("none", x.things(), 0);
    }

    /** Promise 12: "0 for the first thing", "Throws IndexOutOfBoundsException if there is no such thing". */
    private static void testPlaceRange() {
        int[] wrong = {Integer.MIN_VALUE, -2, -1, 2, 3, 9, 10, Integer.MAX_VALUE};
        LayeredTable x = Setting.with(Setting.VEIL, 0, Setting.BEAST, 0);
        for (int place : wrong) {
            Expect.thrown("no thing " + place, IndexOutOfBoundsException.class, () -> x.cardOf(place));
        }
        Expect.same("the first", x.cardOf(0), Setting.VEIL);
        Expect.same("the last", x.cardOf(1), Setting.BEAST);
    }

    /** Promise 12, as above, when the table is empty again: what has left has no place any more. */
    private static void testPlacesOfEmptyTable() {
        LayeredTable x = Setting.with(Setting.MASK, 0);
        x.play(Setting.STRIKE, 0);
        x.settle(1);
        Expect.thrown("cardOf(0)", IndexOutOfBoundsException.class, () -> x.cardOf(0));
        Expect.thrown("controllerOf(0, 5)", IndexOutOfBoundsException.class, () -> x.controllerOf(0, 5));
        Expect.thrown("kindsOf(0, 5)", IndexOutOfBoundsException.class, () -> x.kindsOf(0, 5));
        Expect.thrown("strengthOf(0, 5)", IndexOutOfBoundsException.class, () -> x.strengthOf(0, 5));
    }

    /** Promise 12, as above, on the full table: the places are 0 to 9. */
    private static void testPlacesOfFullTable() {
        LayeredTable x = Setting.fullTable(Setting.VEIL);
        Expect.same("the first", x.cardOf(0), Setting.VEIL);
        Expect.same("the last", x.cardOf(9), Setting.BEAST);
        Expect.thrown("behind the last", IndexOutOfBoundsException.class, () -> x.cardOf(10));
        Expect.thrown("behind the last", IndexOutOfBoundsException.class, () -> x.strengthOf(10, 5));
        Expect.thrown("ahead of the first", IndexOutOfBoundsException.class, () -> x.cardOf(-1));
    }

    /** Turns: "unless there are 10": with nine things there is room for one more, and it enters. */
    private static void testLastPlaceIsFree() {
        LayeredTable x = new LayeredTable();
        for (int i = 0; i < 9; i++) {
            Setting.lay(x, 0, i == 0 ? Setting.BELL : Setting.MASK, 0);
            x.settle(60);
        }
        Expect.same("nine", x.things(), 9);
        Setting.lay(x, 0, Setting.VEIL, 0);
        Expect.same("ten", x.things(), 10);
        Expect.same("the tenth", x.cardOf(9), Setting.VEIL);
        Expect.text("it has entered", Setting.stack(x), "9!0");
    }

    /** Turns: "unless there are 10; then it is gone", and its cost, too. */
    private static void testEleventhThing() {
        LayeredTable x = Setting.fullTable(Setting.MASK);
        Setting.reachTurn(x, 0, 3);
        int coins = x.coins(0);
        Expect.same("it can be played", x.play(Setting.TOWER, 0), 1);
        Expect.same("it takes effect", x.settle(60), 1);
        Expect.text("it is not on the table", Setting.cards(x), "5 5 5 5 5 5 5 5 5 0");
        Expect.same("nor on the stack", x.stack(), 0);
        Expect.same("it is paid", x.coins(0), coins - 3);
        x.play(Setting.STRIKE, 0);
        x.settle(1);
        Expect.text("nor does it wait for a room", Setting.cards(x), "5 5 5 5 5 5 5 5 0");
    }

    /** Turns: "without having entered": neither BELL nor ALTAR sees it. */
    private static void testEleventhThingHasNotEntered() {
        int[] cards = {Setting.BELL, Setting.ALTAR};
        for (int card : cards) {
            LayeredTable x = new LayeredTable();
            for (int i = 0; i < 10; i++) {
                Setting.lay(x, 0, i == 3 ? card : Setting.MASK, 0);
                x.settle(60);
            }
            Setting.lay(x, 0, Setting.VEIL, 0);
            Expect.text("no trigger", Setting.stack(x), "");
            x.play(Setting.STRIKE, 0);
            x.settle(1);
            Setting.lay(x, 0, Setting.VEIL, 0);
            Expect.text("with a room it has entered", Setting.stack(x), card + "!0");
        }
    }

    /** Turns: "without having entered or left": no PYRE sees it. */
    private static void testEleventhThingHasNotLeft() {
        LayeredTable x = Setting.fullTable(Setting.PYRE);
        Setting.lay(x, 0, Setting.VEIL, 0);
        Expect.text("no trigger", Setting.stack(x), "");
        Setting.reachTurn(x, 0, 1);
        x.play(Setting.STRIKE, 9);
        x.settle(1);
        Expect.same("a thing that leaves has left", x.stack(), 9);
    }

    /** Turns, as above: a CROWN that is gone crowns nothing. */
    private static void testEleventhThingHasNoEffect() {
        LayeredTable x = Setting.fullTable(Setting.MASK);
        Setting.lay(x, 1, Setting.CROWN, 9);
        Expect.same("ten things", x.things(), 10);
        Expect.same("the BEAST's controller", x.controllerOf(9, 5), 0);
    }

    /** Turns: "it enters the table as the last one", also behind a thing that has left. */
    private static void testEntersAsLastOne() {
        LayeredTable x = Setting.with(Setting.BEAST, 0, Setting.MASK, 0, Setting.VEIL, 0);
        Setting.reachTurn(x, 0, 5);
        x.play(Setting.STRIKE, 0);
        x.settle(1);
        Setting.lay(x, 0, Setting.BELL, 0);
        Expect.text("the last one", Setting.cards(x), "5 6 9");
    }

    /** Terms: "Things lie on the table in the order in which they entered it", not in that of being played. */
    private static void testOrderOfEntering() {
        LayeredTable x = Setting.with(Setting.PYRE, 0, Setting.MASK, 1);
        Setting.reachTurn(x, 0, 3);
        x.play(Setting.VEIL, 0);
        x.play(Setting.STRIKE, 1);
        x.settle(2);
        Expect.text("the PYRE's BEAST comes first", Setting.cards(x), "10 0");
        x.settle(1);
        Expect.text("the VEIL was played first", Setting.cards(x), "10 0 6");
    }
}
