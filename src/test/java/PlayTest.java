/** Promise 2: play, and what the cards do when they take effect. */
final class PlayTest {
    public static void main(String[] args) {
        testCosts();
        testOrderOfPlayers();
        testTargetIsOfNoMatter();
        testThingsEnter();
        testFullTable();
        testStrike();
        testStrikeWithoutTarget();
        testDeny();
        testDenyWithoutTarget();
        testDenyFromTheMiddle();
        testCrownWithoutTarget();
        testWrongCalls();
        testPlayEndsPasses();
        Expect.finish();
    }

    private static void testCosts() {
        for (int card = 0; card < 14; card++) {
            LayeredTable x = Setting.with(Setting.BEAST, 0);
            Setting.reachTurn(x, 0, 6);
            x.play(Setting.BEAST, 0);
            if (card < 12) {
                x.settle(60);
            } else {
                x.pass();
                x.pass();
                x.pass();
                x.play(Setting.STRIKE, 0);
            }
            int player = x.acting();
            int before = x.coins(player);
            int stack = x.stack();
            Expect.same("promise 2: play " + card + " returns", x.play(card, 0), stack + 1);
            Expect.same("promise 2: the cost of " + card, before - x.coins(player), Setting.COST[card]);
            Expect.same("promise 2: the entry of " + card, x.entryCard(0), card);
            Expect.same("promise 2: who played " + card, x.entryPlayer(0), player);
            Expect.same("promise 2: next to act behind " + card, x.acting(), (player + 1) % 3);
        }
    }

    private static void testOrderOfPlayers() {
        LayeredTable x = new LayeredTable();
        Expect.same("promise 2: first", x.play(Setting.BEAST, 0), 1);
        Expect.same("promise 2: second", x.play(Setting.DENY, 0), 2);
        Expect.same("promise 2: third", x.play(Setting.DENY, 0), 3);
        Expect.same("promise 2: fourth", x.play(Setting.DENY, 0), 4);
        Expect.same("promise 2: round the table", x.acting(), 1);
        Expect.text("promise 2: the stack", Setting.stack(x), "13.0>1 13.2>2 13.1>3 0.0");
        Expect.text("promise 2: coins", Setting.coins(x), "3 5 5");
        Expect.same("promise 2: nobody else gets the turn", x.turn(), 0);
    }

    private static void testTargetIsOfNoMatter() {
        int[] targets = {Integer.MIN_VALUE, -1, 0, 99, Integer.MAX_VALUE};
        for (int target : targets) {
            LayeredTable x = new LayeredTable();
            Expect.same("promise 2: a BEAST with target " + target, x.play(Setting.BEAST, target), 1);
            Expect.same("promise 2: has none", x.entryTarget(0), LayeredTable.NONE);
        }
    }

    private static void testThingsEnter() {
        LayeredTable x = new LayeredTable();
        x.play(Setting.MASK, 0);
        Expect.same("promise 2: not on the table yet", x.things(), 0);
        x.settle(1);
        x.play(Setting.BEAST, 0);
        x.settle(1);
        Expect.text("promise 2: the last one", Setting.cards(x), "5 0");
        Expect.same("promise 2: not on the stack any more", x.stack(), 0);
        Expect.same("promise 2: coins", x.coins(0), 2);
    }

    /** Ten BEASTs; a BELL and an ALTAR would tell that a thing has entered or left. */
    private static void testFullTable() {
        LayeredTable x = Setting.with(Setting.BELL, 0);
        for (int i = 0; i < 8; i++) {
            Setting.lay(x, i % 3, Setting.MASK, 0);
            x.settle(60);
        }
        Setting.lay(x, 1, Setting.PYRE, 0);
        x.settle(60);
        Expect.text("promise 2: ten things", Setting.cards(x), "9 5 5 5 5 5 5 5 5 10");
        Setting.reachTurn(x, 0, 2);
        int coins = x.coins(0);
        Expect.same("promise 2: an eleventh can be played", x.obstacle(Setting.BEAST, 0), LayeredTable.PLAYABLE);
        x.play(Setting.BEAST, 0);
        x.settle(1);
        Expect.text("promise 2: but is gone", Setting.cards(x), "9 5 5 5 5 5 5 5 5 10");
        Expect.same("promise 2: without having entered or left", x.stack(), 0);
        Expect.same("promise 2: it is not paid back", x.coins(0), coins - 2);
        x.pass();
        x.play(Setting.STRIKE, 1);
        x.settle(1);
        Expect.text("promise 2: a place is free again", Setting.cards(x), "9 5 5 5 5 5 5 5 10");
        Expect.text("promise 2: it has left", Setting.stack(x), "10!1");
        x.settle(1);
        Expect.text("promise 2: the PYRE's BEAST", Setting.cards(x), "9 5 5 5 5 5 5 5 10 0");
        Expect.same("promise 2: is the PYRE's controller's", x.controllerOf(9, 5), 1);
        Expect.text("promise 2: it has entered", Setting.stack(x), "9!0");
    }

    private static void testStrike() {
        LayeredTable x = Setting.with(Setting.BEAST, 0, Setting.TIDE, 1);
        Expect.same("promise 2: strength 4", x.strengthOf(0, 5), 4);
        x.play(Setting.STRIKE, 0);
        Expect.same("promise 2: the STRIKE's target", x.entryTarget(0), 0);
        Expect.text("promise 2: nothing leaves yet", Setting.cards(x), "0 4");
        x.settle(1);
        Expect.text("promise 2: strength 4 leaves", Setting.cards(x), "4");

        x = Setting.with(Setting.BEAST, 0, Setting.TIDE, 1, Setting.BANNER, 0);
        Expect.same("promise 2: strength 6", x.strengthOf(0, 5), 6);
        x.play(Setting.STRIKE, 0);
        x.settle(1);
        Expect.text("promise 2: strength 6 stays", Setting.cards(x), "0 4 2");
        x.play(Setting.STRIKE, 2);
        x.play(Setting.STRIKE, 0);
        x.settle(1);
        Expect.text("promise 2: still too strong", Setting.cards(x), "0 4 2");
        x.settle(1);
        Expect.text("promise 2: the BANNER leaves", Setting.cards(x), "0 4");
        Expect.same("promise 2: strength 4 again", x.strengthOf(0, 5), 4);
        x.play(Setting.STRIKE, 0);
        x.settle(1);
        Expect.text("promise 2: now it leaves", Setting.cards(x), "4");

        x = Setting.with(Setting.BEAST, 0, Setting.FOG, 1, Setting.BANNER, 0, Setting.BANNER, 0);
        Expect.same("promise 2: strength 5", x.strengthOf(0, 5), 5);
        x.play(Setting.STRIKE, 0);
        Expect.same("promise 2: an answer about another layer", x.strengthOf(0, 0), 2);
        x.settle(1);
        Expect.text("promise 2: strength 5 stays", Setting.cards(x), "0 3 2 2");
    }

    private static void testStrikeWithoutTarget() {
        LayeredTable x = Setting.with(Setting.MASK, 0, Setting.VEIL, 1);
        x.play(Setting.STRIKE, 0);
        x.play(Setting.STRIKE, 0);
        x.play(Setting.STRIKE, 1);
        x.settle(2);
        Expect.text("promise 2: both have left", Setting.cards(x), "");
        Expect.text("promise 2: the last STRIKE has no target", Setting.stack(x), "12.1");
        Expect.same("promise 2: it takes effect", x.settle(9), 1);
        Expect.text("promise 2: without any", Setting.cards(x), "");

        x = Setting.with(Setting.MASK, 0, Setting.VEIL, 1);
        x.play(Setting.STRIKE, 0);
        x.play(Setting.STRIKE, 0);
        x.settle(2);
        Expect.text("promise 2: what took its place does not leave", Setting.cards(x), "6");
    }

    private static void testDeny() {
        LayeredTable x = Setting.with(Setting.PYRE, 0, Setting.BELL, 1);
        x.settle(60);
        Setting.reachTurn(x, 0, 5);
        x.play(Setting.MASK, 0);
        x.play(Setting.STRIKE, 1);
        x.play(Setting.DENY, 1);
        Expect.text("promise 2: the DENY's target", Setting.stack(x), "13.2>2 12.1>1 5.0");
        Expect.same("promise 2: it takes effect", x.settle(1), 1);
        Expect.text("promise 2: its target is taken from the stack", Setting.stack(x), "12.1>1");
        Expect.text("promise 2: without effect", Setting.cards(x), "10 9");
        x.settle(1);
        Expect.text("promise 2: the STRIKE hits and the PYRE sees it", Setting.stack(x), "10!0");
        Expect.text("promise 2: the BELL is gone", Setting.cards(x), "10");
    }

    private static void testDenyWithoutTarget() {
        LayeredTable x = new LayeredTable();
        x.play(Setting.BEAST, 0);
        x.play(Setting.DENY, 0);
        x.play(Setting.DENY, 1);
        Expect.text("promise 2: two DENYs of one card", Setting.stack(x), "13.2>2 13.1>2 0.0");
        x.settle(1);
        Expect.text("promise 2: the second has lost its target", Setting.stack(x), "13.1");
        Expect.same("promise 2: it takes effect", x.settle(9), 1);
        Expect.text("promise 2: nothing is left", Setting.stack(x) + Setting.cards(x), "");

        x = new LayeredTable();
        x.play(Setting.BEAST, 0);
        x.play(Setting.DENY, 0);
        x.play(Setting.DENY, 0);
        x.settle(2);
        Expect.text("promise 2: a denied DENY spares the BEAST", Setting.cards(x), "0");
    }

    /** What lies above a denied card stays what it is. */
    private static void testDenyFromTheMiddle() {
        LayeredTable x = Setting.with(Setting.PYRE, 0, Setting.MASK, 1);
        x.play(Setting.STRIKE, 0);
        x.play(Setting.STRIKE, 1);
        x.settle(1);
        x.play(Setting.DENY, 1);
        Expect.text("promise 2: a trigger above the target", Setting.stack(x), "13.1>2 10!0 12.1>0");
        x.settle(1);
        Expect.text("promise 2: the trigger stays one", Setting.stack(x), "10!0");

        x = Setting.with(Setting.BEAST, 0);
        x.play(Setting.STRIKE, 0);
        x.play(Setting.STRIKE, 0);
        x.play(Setting.DENY, 0);
        x.play(Setting.DENY, 2);
        Expect.text("promise 2: two DENYs", Setting.stack(x), "13.0>3 13.2>2 12.1>0 12.0>0");
        x.settle(1);
        Expect.text("promise 2: the lowest is denied", Setting.stack(x), "13.2>1 12.1>0");
        x.settle(1);
        Expect.text("promise 2: the other, too", Setting.stack(x), "");
        Expect.text("promise 2: the BEAST stays", Setting.cards(x), "0");
    }

    private static void testCrownWithoutTarget() {
        LayeredTable x = Setting.with(Setting.MASK, 0, Setting.BEAST, 1);
        Setting.reachTurn(x, 2, 4);
        x.play(Setting.CROWN, 0);
        x.play(Setting.STRIKE, 0);
        x.settle(1);
        Expect.text("promise 2: the CROWN has lost its target", Setting.stack(x), "7.2");
        x.settle(1);
        Expect.text("promise 2: it enters all the same", Setting.cards(x), "0 7");
        Expect.text("promise 2: and crowns nothing", Setting.controllers(x, 5), "1 2");
    }

    private static void testWrongCalls() {
        LayeredTable x = Setting.with(Setting.BEAST, 0, Setting.PYRE, 1);
        x.play(Setting.STRIKE, 0);
        x.pass();
        String before = Setting.whole(x);
        int[] cards = {Integer.MIN_VALUE, -1, 14, 15, Integer.MAX_VALUE};
        for (int card : cards) {
            Expect.thrown("promise 2: play " + card, IndexOutOfBoundsException.class, () -> x.play(card, 0));
            Expect.thrown("promise 2: play " + card, IndexOutOfBoundsException.class, () -> x.play(card, -1));
        }
        int[] targets = {Integer.MIN_VALUE, -1, 2, 10, 12, Integer.MAX_VALUE};
        for (int target : targets) {
            Expect.thrown("promise 2: STRIKE " + target, IllegalStateException.class, () -> x.play(12, target));
            Expect.thrown("promise 2: DENY " + target, IllegalStateException.class, () -> x.play(13, target));
            Expect.thrown("promise 2: CROWN " + target, IllegalStateException.class, () -> x.play(7, target));
        }
        for (int card = 0; card < 12; card++) {
            int thing = card;
            Expect.thrown("promise 2: a thing now", IllegalStateException.class, () -> x.play(thing, 0));
        }
        Expect.text("promise 2: a call that throws changes nothing", Setting.whole(x), before);
        x.pass();
        Expect.same("promise 2: nor ends the passes", x.pass(), LayeredTable.RESOLVED);
    }

    private static void testPlayEndsPasses() {
        LayeredTable x = Setting.with(Setting.BEAST, 0);
        x.pass();
        x.pass();
        x.play(Setting.STRIKE, 0);
        Expect.same("promise 2: acting", x.acting(), 0);
        Expect.same("promise 2: pass 1", x.pass(), LayeredTable.PASSED);
        Expect.same("promise 2: pass 2", x.pass(), LayeredTable.PASSED);
        Expect.same("promise 2: pass 3", x.pass(), LayeredTable.RESOLVED);
        Expect.same("promise 2: the BEAST has left", x.things(), 0);
    }
}
