/** The edges of the triggers; each remark names the sentence of the document that is held. */
final class TriggerEdgesTest {
    public static void main(String[] args) {
        testNoTriggers();
        testNotTheThingItself();
        testTurnsPlayerFirst();
        testOrderOfOnePlayer();
        testControllersAsTheyAreThen();
        testCrownThatHasLeft();
        testThingThatLeaves();
        testCrownLeavesAfterwards();
        testNoRoom();
        testOneRoom();
        testTwoRooms();
        testJustEnoughRoom();
        testLostForGood();
        testTriggersOfTriggers();
        Expect.finish();
    }

    /** Terms: "the things on the table that have such a trigger put one on the stack": none of them, no trigger. */
    private static void testNoTriggers() {
        LayeredTable x = Setting.with(Setting.PYRE, 0, Setting.TOWER, 1, Setting.MASK, 2);
        Expect.text("PYRE and TOWER do not see a thing enter", Setting.stack(x), "");
        x = Setting.settled(Setting.BELL, 0, Setting.ALTAR, 1, Setting.TOWER, 2, Setting.MASK, 2);
        x.play(Setting.STRIKE, 3);
        x.settle(1);
        Expect.text("BELL, ALTAR and TOWER do not see a thing leave", Setting.stack(x), "");
        x = Setting.settled(Setting.BELL, 0, Setting.ALTAR, 0, Setting.PYRE, 0, Setting.MASK, 1);
        Setting.reachTurn(x, 2, 0);
        Setting.passTurn(x);
        Expect.text("BELL, ALTAR and PYRE do not see a turn begin", Setting.stack(x), "");
    }

    /** Terms: "but not the thing itself that has entered", though others of its card see it, and the tenth, too. */
    private static void testNotTheThingItself() {
        int[] cards = {Setting.BELL, Setting.ALTAR};
        for (int card : cards) {
            LayeredTable x = new LayeredTable();
            for (int things = 0; things < 10; things++) {
                Setting.lay(x, 0, card, 0);
                Expect.same("all but itself see " + card, x.stack(), things);
                x.settle(60);
            }
        }
    }

    /** Terms: "first those of the player who has the turn, then those of the next player": behind 2 comes 0. */
    private static void testTurnsPlayerFirst() {
        String[] due = {"9!2 9!1 9!0", "9!0 9!2 9!1", "9!1 9!0 9!2"};
        for (int turn = 0; turn < 3; turn++) {
            LayeredTable x = Setting.settled(Setting.BELL, 0, Setting.BELL, 1, Setting.BELL, 2);
            Setting.lay(x, turn, Setting.MASK, 0);
            Expect.text("the first lies lowest, in the turn of " + turn, Setting.stack(x), due[turn]);
        }
    }

    /** Terms: "those of a player in the order of the things", whichever of another lies between them. */
    private static void testOrderOfOnePlayer() {
        LayeredTable x = Setting.settled(Setting.BELL, 0, Setting.ALTAR, 2, Setting.ALTAR, 0, Setting.BELL, 0);
        Setting.lay(x, 1, Setting.MASK, 0);
        Expect.text("those of 2, then those of 0", Setting.stack(x), "9!0 11!0 9!0 11!2");
    }

    /** Terms: "by their controllers as they are then": the CROWN that has just entered counts. */
    private static void testControllersAsTheyAreThen() {
        LayeredTable x = Setting.with(Setting.BELL, 0, Setting.MASK, 1);
        Expect.text("ahead of the CROWN", Setting.stack(x), "9!0");
        Setting.lay(x, 2, Setting.CROWN, 0);
        Expect.text("with the CROWN's own entering", Setting.stack(x), "9!2");
    }

    /** Terms, as above: a CROWN that has just left counts no more. */
    private static void testCrownThatHasLeft() {
        LayeredTable x = Setting.with(Setting.PYRE, 0, Setting.MASK, 0);
        Setting.lay(x, 1, Setting.CROWN, 0);
        x.play(Setting.STRIKE, 1);
        x.settle(1);
        Expect.text("with the CROWN", Setting.stack(x), "10!1");
        x.settle(1);
        x.play(Setting.STRIKE, 1);
        x.settle(1);
        Expect.text("with the CROWN's own leaving", Setting.stack(x), "10!0");
    }

    /** Terms: "whatever becomes of the thing": the trigger of a BELL that has left brings its coin. */
    private static void testThingThatLeaves() {
        LayeredTable x = Setting.with(Setting.BELL, 0, Setting.MASK, 1);
        int coins = x.coins(0);
        x.play(Setting.STRIKE, 0);
        x.settle(1);
        Expect.text("the BELL has left", Setting.cards(x), "5");
        Expect.text("its trigger stays", Setting.stack(x), "9!0");
        x.settle(1);
        Expect.same("its coin", x.coins(0), coins + 1);
    }

    /** Terms: "The player who is the controller then is the one [...] whom its effect means": the CROWN leaves. */
    private static void testCrownLeavesAfterwards() {
        LayeredTable x = Setting.with(Setting.BELL, 0);
        Setting.lay(x, 1, Setting.CROWN, 0);
        int first = x.coins(0);
        int second = x.coins(1);
        x.play(Setting.STRIKE, 1);
        x.settle(1);
        Expect.same("the BELL's controller is another", x.controllerOf(0, 5), 0);
        Expect.text("its trigger's player is the same", Setting.stack(x), "9!1");
        x.settle(1);
        Expect.same("the coin of player 1, who has paid one", x.coins(1), second - 1 + 1);
        Expect.same("no coin of player 0", x.coins(0), first);
    }

    /** Four PYREs see the MASK leave, two of them of player 0, who has the turn; so many STRIKEs are played. */
    private static LayeredTable fourPyres(int strikes) {
        LayeredTable x = Setting.with(Setting.PYRE, 2, Setting.PYRE, 0, Setting.PYRE, 1, Setting.PYRE, 0);
        Setting.lay(x, 2, Setting.MASK, 0);
        Setting.reachTurn(x, 0, 9);
        for (int i = 1; i <= strikes; i++) {
            x.play(Setting.STRIKE, i == strikes ? 4 : 0);
        }
        Expect.same("the STRIKEs", x.stack(), strikes);
        return x;
    }

    private static String upper(LayeredTable x, int entries) {
        StringBuilder text = new StringBuilder();
        for (int place = 0; place < entries; place++) {
            text.append(x.entryCard(place)).append(x.isTrigger(place) ? '!' : '.').append(x.entryPlayer(place));
            text.append(' ');
        }
        return text.toString();
    }

    /** Terms: "The stack has at most 12 entries": nine PYREs twice, and there are never more. */
    private static void testNoRoom() {
        LayeredTable x = Setting.fullTable(Setting.PYRE);
        Setting.reachTurn(x, 0, 8);
        for (int i = 0; i < 8; i++) {
            x.play(Setting.STRIKE, i);
        }
        x.settle(1);
        Expect.same("seven and eight of nine", x.stack(), 12);
        Expect.same("the lowest is a STRIKE", x.isTrigger(11), false);
        Expect.same("so is the one below the triggers", x.isTrigger(5), false);
        Expect.same("the lowest trigger", x.isTrigger(4), true);
        Expect.thrown("no thirteenth", IndexOutOfBoundsException.class, () -> x.entryCard(12));
    }

    /** Terms: "triggers that find no room are lost": with one room the first one of the turn's player finds it. */
    private static void testOneRoom() {
        LayeredTable x = fourPyres(12);
        x.settle(1);
        Expect.same("full", x.stack(), 12);
        Expect.text("one trigger", upper(x, 2), "10!0 12." + x.entryPlayer(1) + " ");
    }

    /** Terms, as above: with two rooms both of the turn's player find them, with three that of the next, too. */
    private static void testTwoRooms() {
        LayeredTable x = fourPyres(11);
        x.settle(1);
        Expect.same("full", x.stack(), 12);
        Expect.text("two triggers", upper(x, 2), "10!0 10!0 ");
        Expect.same("and no third", x.isTrigger(2), false);
        x = fourPyres(10);
        x.settle(1);
        Expect.same("full", x.stack(), 12);
        Expect.text("three triggers", upper(x, 3), "10!1 10!0 10!0 ");
        Expect.same("and no fourth", x.isTrigger(3), false);
    }

    /** Terms, as above: just as many rooms as triggers: none is lost. */
    private static void testJustEnoughRoom() {
        LayeredTable x = fourPyres(9);
        x.settle(1);
        Expect.same("full", x.stack(), 12);
        Expect.text("four triggers", upper(x, 4), "10!2 10!1 10!0 10!0 ");
        x = fourPyres(8);
        x.settle(1);
        Expect.same("a room is left", x.stack(), 11);
        Expect.text("four triggers", upper(x, 4), "10!2 10!1 10!0 10!0 ");
    }

    /** Terms, as above: they do not come when there is room again. */
    private static void testLostForGood() {
        LayeredTable x = fourPyres(12);
        x.settle(1);
        Expect.same("full", x.stack(), 12);
        Expect.text("four PYREs", Setting.cards(x), "10 10 10 10");
        x.settle(1);
        Expect.text("a BEAST", Setting.cards(x), "10 10 10 10 0");
        Expect.same("eleven", x.stack(), 11);
        Expect.same("no trigger on top", x.isTrigger(0), false);
    }

    /** Terms: "When a thing has entered, when it has left": what a trigger lets enter or leave raises triggers, too. */
    private static void testTriggersOfTriggers() {
        LayeredTable x = Setting.settled(Setting.PYRE, 0, Setting.BELL, 1, Setting.ALTAR, 2);
        Setting.reachTurn(x, 2, 2);
        x.play(Setting.BEAST, 0);
        x.settle(1);
        Expect.text("a card's", Setting.stack(x), "9!1 11!2");
        x.settle(2);
        Expect.text("the ALTAR's", Setting.stack(x), "10!0");
        x.settle(1);
        Expect.text("the PYRE's", Setting.stack(x), "9!1 11!2");
    }
}
