/** Promises 11 and 12: things and cardOf. */
final class ThingsTest {
    public static void main(String[] args) {
        testEachCard();
        testOrder();
        testWrongPlaces();
        Expect.finish();
    }

    private static void testEachCard() {
        for (int card = 0; card < 12; card++) {
            LayeredTable x = Setting.with(Setting.MASK, 0);
            Setting.lay(x, 1, card, 0);
            Expect.same("promise 11: things with " + card, x.things(), 2);
            Expect.same("promise 12: cardOf " + card, x.cardOf(1), card);
            Expect.same("promise 12: the first", x.cardOf(0), Setting.MASK);
        }
    }

    private static void testOrder() {
        LayeredTable x = new LayeredTable();
        for (int i = 1; i <= 10; i++) {
            Setting.lay(x, i % 3, i % 3 == 0 ? Setting.BEAST : Setting.MASK + i % 2, 0);
            Expect.same("promise 11: things", x.things(), i);
        }
        Expect.text("promise 12: in the order of entering", Setting.cards(x), "6 5 0 5 6 0 6 5 0 5");
        Setting.lay(x, 0, Setting.BEAST, 0);
        Expect.same("promise 11: at most ten", x.things(), 10);
        x.play(Setting.STRIKE, 2);
        x.settle(1);
        Expect.same("promise 11: nine", x.things(), 9);
        Expect.text("promise 12: the later ones move up", Setting.cards(x), "6 5 5 6 0 6 5 0 5");
        x.play(Setting.STRIKE, 8);
        x.settle(1);
        Expect.text("promise 12: the last has left", Setting.cards(x), "6 5 5 6 0 6 5 0");
        x.play(Setting.STRIKE, 0);
        x.settle(1);
        Expect.text("promise 12: the first has left", Setting.cards(x), "5 5 6 0 6 5 0");
    }

    private static void testWrongPlaces() {
        LayeredTable x = Setting.with(Setting.BEAST, 0, Setting.MASK, 1);
        String before = Setting.whole(x);
        int[] places = {Integer.MIN_VALUE, -1, 2, 9, 10, Integer.MAX_VALUE};
        for (int place : places) {
            Expect.thrown("promise 12: cardOf(" + place + ")", IndexOutOfBoundsException.class,
                () -> x.cardOf(place));
        }
        Expect.text("promise 12: a call that throws changes nothing", Setting.whole(x), before);
        LayeredTable empty = new LayeredTable();
        Expect.thrown("promise 12: an empty table", IndexOutOfBoundsException.class, () -> empty.cardOf(0));
    }
}
