/** Promises 17 to 21: stack, entryCard, isTrigger, entryPlayer and entryTarget, and which triggers stand there. */
final class StackTest {
    public static void main(String[] args) {
        testEntries();
        testTargetsMove();
        testEnteringTriggers();
        testLeavingTriggers();
        testOrderOfTriggers();
        testControllersThen();
        testFullStack();
        testAltar();
        testWrongPlaces();
        Expect.finish();
    }

    private static void entry(LayeredTable x, int place, int card, boolean trigger, int player, int target) {
        String at = " of the entry " + place;
        Expect.same("promise 18: the card" + at, x.entryCard(place), card);
        Expect.same("promise 19: the trigger" + at, x.isTrigger(place), trigger);
        Expect.same("promise 20: the player" + at, x.entryPlayer(place), player);
        Expect.same("promise 21: the target" + at, x.entryTarget(place), target);
    }

    private static void testEntries() {
        LayeredTable x = Setting.with(Setting.BELL, 0, Setting.BEAST, 1);
        Expect.same("promise 17: the BELL's trigger", x.stack(), 1);
        entry(x, 0, Setting.BELL, true, 0, LayeredTable.NONE);
        x.play(Setting.STRIKE, 1);
        Expect.same("promise 17: a STRIKE", x.stack(), 2);
        entry(x, 0, Setting.STRIKE, false, 1, 1);
        entry(x, 1, Setting.BELL, true, 0, LayeredTable.NONE);
        x.play(Setting.DENY, 0);
        Expect.same("promise 17: a DENY", x.stack(), 3);
        entry(x, 0, Setting.DENY, false, 2, 1);
        entry(x, 1, Setting.STRIKE, false, 1, 1);
        entry(x, 2, Setting.BELL, true, 0, LayeredTable.NONE);
        x.settle(1);
        Expect.same("promise 17: the STRIKE is denied", x.stack(), 1);
        entry(x, 0, Setting.BELL, true, 0, LayeredTable.NONE);
        x.settle(1);
        Expect.same("promise 17: empty", x.stack(), 0);
        x.play(Setting.CROWN, 1);
        entry(x, 0, Setting.CROWN, false, 1, 1);
        x.settle(60);
        x.play(Setting.MASK, 1);
        entry(x, 0, Setting.MASK, false, 1, LayeredTable.NONE);
    }

    private static void testTargetsMove() {
        LayeredTable x = Setting.with(Setting.MASK, 0, Setting.VEIL, 1);
        x.play(Setting.STRIKE, 1);
        x.play(Setting.STRIKE, 0);
        Expect.text("promise 21: both targets", Setting.stack(x), "12.2>0 12.1>1");
        x.play(Setting.DENY, 1);
        x.play(Setting.STRIKE, 0);
        x.play(Setting.DENY, 1);
        Expect.text("promise 21: places in the stack", Setting.stack(x), "13.2>2 12.1>0 13.0>4 12.2>0 12.1>1");
        x.settle(1);
        Expect.text("promise 21: a DENY is denied", Setting.stack(x), "12.1>0 12.2>0 12.1>1");
        x.settle(1);
        Expect.text("promise 21: one has left, one has moved up", Setting.stack(x), "12.2 12.1>0");
        x.settle(2);
        Expect.text("promise 21: the right one was struck", Setting.cards(x), "");
    }

    private static void testEnteringTriggers() {
        for (int card = 0; card < 12; card++) {
            LayeredTable x = Setting.with(Setting.VEIL, 0, card, 0, Setting.MASK, 1);
            boolean triggers = card == Setting.BELL || card == Setting.ALTAR;
            Expect.text("promise 17: entering triggers " + card, Setting.stack(x), triggers ? card + "!0" : "");
            x = Setting.with(Setting.MASK, 0, card, 1);
            Expect.text("promise 17: not of what enters: " + card, Setting.stack(x), "");
        }
    }

    private static void testLeavingTriggers() {
        for (int card = 1; card < 12; card++) {
            LayeredTable x = Setting.with(Setting.MASK, 0, card, 0, Setting.VEIL, 1);
            x.settle(60);
            x.play(Setting.STRIKE, 2);
            x.settle(1);
            boolean triggers = card == Setting.PYRE;
            Expect.text("promise 17: leaving triggers " + card, Setting.stack(x), triggers ? card + "!0" : "");
            x = Setting.with(Setting.MASK, 0, card, 1);
            x.play(Setting.STRIKE, 1);
            x.settle(1);
            Expect.text("promise 17: not of what leaves: " + card, Setting.stack(x), "");
        }
    }

    /** First those of the player who has the turn; the last one put there is the top. */
    private static void testOrderOfTriggers() {
        int[] cards = {Setting.BELL, 0, Setting.ALTAR, 1, Setting.BELL, 2, Setting.ALTAR, 0, Setting.BELL, 1};
        String[] due = {"9!2 9!1 11!1 11!0 9!0", "11!0 9!0 9!2 9!1 11!1", "9!1 11!1 11!0 9!0 9!2"};
        for (int player = 0; player < 3; player++) {
            LayeredTable x = Setting.with(cards);
            x.settle(60);
            Setting.lay(x, player, Setting.MASK, 0);
            Expect.text("promise 20: in the turn of " + player, Setting.stack(x), due[player]);
        }
        LayeredTable x = Setting.with(Setting.PYRE, 0, Setting.PYRE, 1, Setting.MASK, 2);
        x.play(Setting.STRIKE, 2);
        x.settle(1);
        Expect.text("promise 20: what leaves in the turn of 2", Setting.stack(x), "10!1 10!0");
    }

    private static void testControllersThen() {
        LayeredTable x = Setting.with(Setting.BELL, 0, Setting.BELL, 1);
        Setting.lay(x, 2, Setting.CROWN, 0);
        Expect.text("promise 20: a CROWN that enters counts", Setting.stack(x), "9!1 9!2");
        x.play(Setting.STRIKE, 2);
        x.settle(1);
        Expect.text("promise 20: the triggers stay whose they are", Setting.stack(x), "9!1 9!2");
        x.settle(60);
        Expect.text("promise 20: whatever becomes of the things", Setting.coins(x), "5 8 5");

        x = Setting.with(Setting.PYRE, 0);
        Setting.lay(x, 1, Setting.CROWN, 0);
        x.play(Setting.STRIKE, 1);
        x.settle(1);
        Expect.text("promise 20: a CROWN that has left does not count", Setting.stack(x), "10!0");

        x = Setting.with(Setting.TOWER, 0);
        Setting.lay(x, 1, Setting.CROWN, 0);
        Setting.passTurn(x);
        Setting.passTurn(x);
        Expect.text("promise 20: not of who played the TOWER", Setting.stack(x), "");
        Setting.passTurn(x);
        Expect.text("promise 20: but of its controller", Setting.stack(x), "1!1");
    }

    /** A PYRE each of player 1 and 2, two of player 0, on a stack with one STRIKE less than is full. */
    private static void testFullStack() {
        LayeredTable x = Setting.with(Setting.PYRE, 0, Setting.PYRE, 0, Setting.PYRE, 1, Setting.PYRE, 2);
        Setting.lay(x, 2, Setting.MASK, 0);
        Setting.reachTurn(x, 0, 9);
        for (int i = 0; i < 12; i++) {
            x.play(Setting.STRIKE, i == 11 ? 4 : 0);
        }
        Expect.same("promise 17: full", x.stack(), 12);
        x.settle(1);
        Expect.same("promise 17: still full", x.stack(), 12);
        entry(x, 0, Setting.PYRE, true, 0, LayeredTable.NONE);
        entry(x, 1, Setting.STRIKE, false, 1, 0);
        Expect.same("promise 17: the lost triggers do not come back", x.settle(1), 1);
        entry(x, 0, Setting.STRIKE, false, 1, 0);
        Expect.same("promise 17: one less", x.stack(), 11);
    }

    private static void testAltar() {
        LayeredTable x = Setting.with(Setting.MASK, 0, Setting.BEAST, 1, Setting.BEAST, 2);
        Setting.lay(x, 0, Setting.ALTAR, 0);
        Expect.text("promise 18: an ALTAR does not see itself", Setting.stack(x), "");
        Setting.lay(x, 1, Setting.TIDE, 0);
        Expect.text("promise 18: an ALTAR", Setting.stack(x), "11!0");
        x.settle(1);
        Expect.text("promise 18: the first BEAST leaves", Setting.cards(x), "5 0 11 4");
        Expect.same("promise 18: it was that of player 1", x.controllerOf(1, 0), 2);
        Setting.lay(x, 0, Setting.BANNER, 0);
        x.settle(60);
        Expect.text("promise 18: the other one", Setting.cards(x), "5 11 4 2");
        Setting.lay(x, 1, Setting.TOWER, 0);
        Expect.same("promise 18: no BEAST any more", x.settle(60), 1);
        Expect.text("promise 18: nothing leaves", Setting.cards(x), "5 11 4 2 1");
        x = Setting.with(Setting.BEAST, 0, Setting.ALTAR, 1, Setting.MASK, 2);
        x.settle(60);
        Expect.text("promise 18: a BEAST that lies first", Setting.cards(x), "11 5");
    }

    private static void testWrongPlaces() {
        LayeredTable x = Setting.with(Setting.BEAST, 0);
        x.play(Setting.STRIKE, 0);
        x.play(Setting.STRIKE, 0);
        String before = Setting.whole(x);
        wrong(x, new int[] {Integer.MIN_VALUE, -2, -1, 2, 3, 11, 12, Integer.MAX_VALUE});
        Expect.text("promises 18 to 21: a call that throws changes nothing", Setting.whole(x), before);
        wrong(new LayeredTable(), new int[] {-1, 0, 1});
    }

    private static void wrong(LayeredTable x, int[] places) {
        Class<IndexOutOfBoundsException> due = IndexOutOfBoundsException.class;
        for (int place : places) {
            Expect.thrown("promise 18: entryCard(" + place + ")", due, () -> x.entryCard(place));
            Expect.thrown("promise 19: isTrigger(" + place + ")", due, () -> x.isTrigger(place) ? 1 : 0);
            Expect.thrown("promise 20: entryPlayer(" + place + ")", due, () -> x.entryPlayer(place));
            Expect.thrown("promise 21: entryTarget(" + place + ")", due, () -> x.entryTarget(place));
        }
    }
}
