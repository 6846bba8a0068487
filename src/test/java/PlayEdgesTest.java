/** The edges of promises 2 and 3; each remark names the sentence of the document that is held. */
final class PlayEdgesTest {
    private static final int[] NO_CARDS = {Integer.MIN_VALUE, -1, 14, 15, Integer.MAX_VALUE};

    public static void main(String[] args) {
        testCardRange();
        testNoSuchCard();
        testPlaceOnTable();
        testPlaceOnEmptyTable();
        testPlaceOnFullTable();
        testPlaceOnStack();
        testPlaceOnFullStack();
        testTargetOfOtherCards();
        testStackBehindPlay();
        testCannotBePlayed();
        testThingsInOwnTurn();
        testThingsOnEmptyStack();
        testSpellsAtAnyTime();
        testTooFewCoins();
        testCostAtOnce();
        testTopOfStack();
        testNextPlayer();
        testNoSuchCardForObstacle();
        testTriggerAsTarget();
        testNoSuchTarget();
        testStackFull();
        testFirstReason();
        testObstacleChangesNothing();
        Expect.finish();
    }

    private static void due(String what, LayeredTable x, int card, int target, int due) {
        Expect.same(what + ": obstacle(" + card + ", " + target + ")", x.obstacle(card, target), due);
    }

    private static void refused(String what, LayeredTable x, int card, int target) {
        Expect.thrown(what + ": play(" + card + ", " + target + ")", IllegalStateException.class,
            () -> x.play(card, target));
    }

    /** Promise 2: "card: 0 to 13": both ends can be played. */
    private static void testCardRange() {
        LayeredTable x = new LayeredTable();
        Expect.same("the first card", x.play(0, 0), 1);
        Expect.same("the last card", x.play(13, 0), 2);
        Expect.text("both are there", Setting.stack(x), "13.1>1 0.0");
    }

    /** Promise 2: "Throws IndexOutOfBoundsException if there is no such card". */
    private static void testNoSuchCard() {
        for (int card : NO_CARDS) {
            Twins.stayAlike("play " + card, x -> Expect.thrown("play " + card, IndexOutOfBoundsException.class,
                () -> x.play(card, 0)));
        }
    }

    /** Promise 2: "the place of a thing on the table for CROWN and STRIKE". */
    private static void testPlaceOnTable() {
        int[] cards = {Setting.CROWN, Setting.STRIKE};
        for (int card : cards) {
            for (int place = -1; place <= 3; place++) {
                LayeredTable x = Setting.with(Setting.MASK, 0, Setting.VEIL, 0, Setting.BEAST, 0);
                Setting.reachTurn(x, 0, 4);
                if (place < 0 || place > 2) {
                    refused("a table of three", x, card, place);
                } else {
                    Expect.same("the place " + place, x.play(card, place), 1);
                    Expect.same("the target", x.entryTarget(0), place);
                }
            }
        }
    }

    /** Promise 2, as above, on the empty table: no place is one of a thing. */
    private static void testPlaceOnEmptyTable() {
        int[] places = {Integer.MIN_VALUE, -1, 0, 1, 9, Integer.MAX_VALUE};
        for (int place : places) {
            refused("an empty table", new LayeredTable(), Setting.STRIKE, place);
            refused("an empty table", new LayeredTable(), Setting.CROWN, place);
        }
    }

    /** Promise 2, as above, on the full table: the places are 0 to 9. */
    private static void testPlaceOnFullTable() {
        LayeredTable x = Setting.fullTable(Setting.MASK);
        Setting.reachTurn(x, 0, 5);
        refused("a full table", x, Setting.CROWN, 10);
        refused("a full table", x, Setting.STRIKE, 10);
        Expect.same("the last of ten", x.play(Setting.CROWN, 9), 1);
        Expect.same("the last of ten", x.play(Setting.STRIKE, 9), 2);
        Expect.text("both targets", Setting.stack(x), "12.1>9 7.0>9");
    }

    /** Promise 2: "the place of an entry of the stack for DENY". */
    private static void testPlaceOnStack() {
        for (int place = -1; place <= 3; place++) {
            LayeredTable x = Setting.withStrikes(3);
            if (place < 0 || place > 2) {
                refused("a stack of three", x, Setting.DENY, place);
            } else {
                Expect.same("the place " + place, x.play(Setting.DENY, place), 4);
                Expect.same("the target is one lower by then", x.entryTarget(0), place + 1);
            }
        }
        refused("an empty stack", Setting.with(Setting.BEAST, 0), Setting.DENY, 0);
    }

    /** Promise 2, as above: the bottom of a stack with one room is the place 10, and 11 by then. */
    private static void testPlaceOnFullStack() {
        LayeredTable x = Setting.withStrikes(11);
        refused("below the bottom", x, Setting.DENY, 11);
        Expect.same("the bottom", x.play(Setting.DENY, 10), 12);
        Expect.same("the target", x.entryTarget(0), 11);
    }

    /** Promise 2: "of other cards it does not matter". */
    private static void testTargetOfOtherCards() {
        int[] targets = {Integer.MIN_VALUE, -1, 0, 1, 10, 12, Integer.MAX_VALUE};
        for (int card = 0; card < Setting.STRIKE; card++) {
            for (int target : targets) {
                LayeredTable x = Setting.with(Setting.MASK, 0);
                Setting.reachTurn(x, 0, 4);
                if (card != Setting.CROWN) {
                    due("any target", x, card, target, LayeredTable.PLAYABLE);
                    Expect.same("any target", x.play(card, target), 1);
                    Expect.same("is none", x.entryTarget(0), LayeredTable.NONE);
                }
            }
        }
    }

    /** Promise 2: "Returns how many entries the stack has then": 1 on the empty stack, 12 at most. */
    private static void testStackBehindPlay() {
        LayeredTable x = Setting.with(Setting.BEAST, 0);
        Setting.reachTurn(x, 2, 9);
        for (int entries = 1; entries <= 12; entries++) {
            Expect.same("the answer", x.play(Setting.STRIKE, 0), entries);
            Expect.same("the stack", x.stack(), entries);
        }
    }

    /** Promise 2: "Throws IllegalStateException if the card cannot be played", for each of the four reasons. */
    private static void testCannotBePlayed() {
        Twins.stayAlike("not now", x -> refused("not now", x, Setting.BEAST, 0));
        Twins.stayAlike("too dear", () -> Setting.withCoins(0), x -> refused("too dear", x, Setting.STRIKE, 0));
        Twins.stayAlike("no target", x -> refused("no target", x, Setting.STRIKE, -1));
        Twins.stayAlike("no target", x -> refused("no target", x, Setting.DENY, 12));
        Twins.stayAlike("stack full", Twins::aheadOfStrike, x -> refused("stack full", x, Setting.STRIKE, 0));
        Twins.stayAlike("stack full", Twins::aheadOfStrike, x -> refused("stack full", x, Setting.DENY, 11));
    }

    /** Turns: "Things can be played only by the player who has the turn". */
    private static void testThingsInOwnTurn() {
        for (int card = 0; card < Setting.STRIKE; card++) {
            LayeredTable x = Setting.with(Setting.MASK, 0);
            Setting.reachTurn(x, 2, 4);
            due("one's own turn", x, card, 0, LayeredTable.PLAYABLE);
            x.pass();
            due("the turn of 2, 0 may act", x, card, 0, LayeredTable.NOT_NOW);
            x.pass();
            due("the turn of 2, 1 may act", x, card, 0, LayeredTable.NOT_NOW);
            refused("the turn of 2, 1 may act", x, card, 0);
        }
    }

    /** Turns: "and only if the stack is empty": one entry is too many, a card or a trigger. */
    private static void testThingsOnEmptyStack() {
        LayeredTable x = Setting.with(Setting.BELL, 0, Setting.MASK, 1);
        Expect.text("a trigger", Setting.stack(x), "9!0");
        Expect.same("the player who has the turn may act", x.acting(), x.turn());
        for (int card = 0; card < Setting.STRIKE; card++) {
            due("a trigger on the stack", x, card, 0, LayeredTable.NOT_NOW);
            refused("a trigger on the stack", x, card, 0);
        }
        x.settle(1);
        due("an empty stack", x, Setting.BEAST, 0, LayeredTable.PLAYABLE);
        x.play(Setting.STRIKE, 1);
        x.pass();
        x.pass();
        Expect.same("the player who has the turn may act", x.acting(), x.turn());
        due("a card on the stack", x, Setting.BEAST, 0, LayeredTable.NOT_NOW);
    }

    /** Turns: "spells at any time": in each player's turn, by each player, on an empty stack and on another. */
    private static void testSpellsAtAnyTime() {
        for (int turn = 0; turn < 3; turn++) {
            for (int passes = 0; passes < 3; passes++) {
                LayeredTable x = Setting.with(Setting.BEAST, 0);
                Setting.reachTurn(x, turn, 0);
                for (int i = 0; i < passes; i++) {
                    x.pass();
                }
                Expect.same("who may act", x.acting(), (turn + passes) % 3);
                Expect.same("a STRIKE on the empty stack", x.play(Setting.STRIKE, 0), 1);
                Expect.same("a STRIKE", x.play(Setting.STRIKE, 0), 2);
                Expect.same("a DENY", x.play(Setting.DENY, 1), 3);
            }
        }
    }

    /** The constants: TOO_DEAR, "there are too few coins": just the cost is enough, one less is not. */
    private static void testTooFewCoins() {
        for (int card = 0; card < Setting.DENY; card++) {
            int cost = Setting.COST[card];
            LayeredTable x = Setting.withCoins(cost);
            due("just the cost", x, card, 0, LayeredTable.PLAYABLE);
            x.play(card, 0);
            Expect.same("no coin is left", x.coins(0), 0);
            x = Setting.withCoins(cost - 1);
            due("one too few", x, card, 0, LayeredTable.TOO_DEAR);
            refused("one too few", x, card, 0);
        }
        LayeredTable x = Setting.withCoins(1);
        x.pass();
        x.play(Setting.STRIKE, 0);
        x.pass();
        due("a DENY for the last coin", x, Setting.DENY, 0, LayeredTable.PLAYABLE);
        x.play(Setting.DENY, 0);
        x.pass();
        x.pass();
        due("a DENY for no coin", x, Setting.DENY, 0, LayeredTable.TOO_DEAR);
    }

    /** Turns: "Whoever plays pays the cost at once": nobody else does, and not again with the effect. */
    private static void testCostAtOnce() {
        int[] costs = {2, 3, 3, 3, 3, 2, 2, 4, 3, 2, 3, 3, 1, 1};
        for (int card = 0; card < costs.length; card++) {
            LayeredTable x = Setting.withCoins(5);
            int others = x.coins(1) + x.coins(2);
            if (card == Setting.DENY) {
                x.play(Setting.STRIKE, 0);
                x.pass();
                x.pass();
            }
            int before = x.coins(0);
            x.play(card, 0);
            Expect.same("paid at once for " + card, before - x.coins(0), costs[card]);
            x.settle(60);
            Expect.same("and not again for " + card, before - x.coins(0), costs[card]);
            Expect.same("nor by others for " + card, x.coins(1) + x.coins(2), others);
        }
    }

    /** Turns: "and the card goes on top of the stack", on cards and on triggers. */
    private static void testTopOfStack() {
        LayeredTable x = Setting.with(Setting.BELL, 0, Setting.BELL, 1, Setting.MASK, 2);
        Expect.text("the triggers", Setting.stack(x), "9!1 9!0");
        x.play(Setting.STRIKE, 2);
        Expect.text("a card on them", Setting.stack(x), "12.2>2 9!1 9!0");
        x.play(Setting.DENY, 0);
        Expect.text("a card on that", Setting.stack(x), "13.0>1 12.2>2 9!1 9!0");
    }

    /** Turns: "then the next player round the table may act": behind player 2 it is player 0. */
    private static void testNextPlayer() {
        LayeredTable x = Setting.with(Setting.BEAST, 0);
        Setting.reachTurn(x, 1, 2);
        for (int player = 1; player <= 6; player++) {
            Expect.same("who may act", x.acting(), player % 3);
            x.play(Setting.STRIKE, 0);
            Expect.same("who may act next", x.acting(), (player + 1) % 3);
        }
        Expect.same("the turn stays", x.turn(), 1);
    }

    /** Promise 3: "Throws IndexOutOfBoundsException if there is no such card". */
    private static void testNoSuchCardForObstacle() {
        for (int card : NO_CARDS) {
            Twins.stayAlike("obstacle " + card, x -> Expect.thrown("obstacle " + card,
                IndexOutOfBoundsException.class, () -> x.obstacle(card, 0)));
        }
        LayeredTable x = new LayeredTable();
        due("the first card", x, 0, 0, LayeredTable.PLAYABLE);
        due("the last card", x, 13, 0, LayeredTable.NO_TARGET);
    }

    /** Promise 3: "a DENY cannot have a trigger as its target". */
    private static void testTriggerAsTarget() {
        LayeredTable x = Setting.with(Setting.BELL, 0, Setting.BELL, 1, Setting.MASK, 2);
        due("the top, a trigger", x, Setting.DENY, 0, LayeredTable.NO_TARGET);
        refused("the top, a trigger", x, Setting.DENY, 0);
        due("the bottom, a trigger", x, Setting.DENY, 1, LayeredTable.NO_TARGET);
        refused("the bottom, a trigger", x, Setting.DENY, 1);
        x.play(Setting.STRIKE, 2);
        due("a card on triggers", x, Setting.DENY, 0, LayeredTable.PLAYABLE);
        due("a trigger below a card", x, Setting.DENY, 1, LayeredTable.NO_TARGET);
        refused("a trigger below a card", x, Setting.DENY, 1);
    }

    /** The constants: NO_TARGET, "there is no such target", for each card that has one. */
    private static void testNoSuchTarget() {
        int[] places = {Integer.MIN_VALUE, -2, -1, 2, 3, Integer.MAX_VALUE};
        LayeredTable x = Setting.with(Setting.MASK, 0, Setting.VEIL, 1);
        Setting.reachTurn(x, 2, 4);
        for (int place : places) {
            due("a table of two", x, Setting.CROWN, place, LayeredTable.NO_TARGET);
            due("a table of two", x, Setting.STRIKE, place, LayeredTable.NO_TARGET);
        }
        for (int place = 0; place < 2; place++) {
            due("a table of two", x, Setting.CROWN, place, LayeredTable.PLAYABLE);
            due("a table of two", x, Setting.STRIKE, place, LayeredTable.PLAYABLE);
        }
        x = Setting.withStrikes(2);
        for (int place : places) {
            due("a stack of two", x, Setting.DENY, place, LayeredTable.NO_TARGET);
        }
        due("a stack of two", x, Setting.DENY, 0, LayeredTable.PLAYABLE);
        due("a stack of two", x, Setting.DENY, 1, LayeredTable.PLAYABLE);
    }

    /** The constants: STACK_FULL, "the stack is full": eleven entries leave room for one, twelve for none. */
    private static void testStackFull() {
        LayeredTable x = Setting.withStrikes(11);
        due("eleven entries", x, Setting.STRIKE, 0, LayeredTable.PLAYABLE);
        due("eleven entries", x, Setting.DENY, 0, LayeredTable.PLAYABLE);
        x.play(Setting.STRIKE, 0);
        due("twelve entries", x, Setting.STRIKE, 0, LayeredTable.STACK_FULL);
        due("twelve entries", x, Setting.DENY, 0, LayeredTable.STACK_FULL);
        refused("twelve entries", x, Setting.STRIKE, 0);
        refused("twelve entries", x, Setting.DENY, 0);
        Expect.same("still twelve", x.stack(), 12);
    }

    /** Promise 3: "of several reasons the first one of the constants", for each two that can come together. */
    private static void testFirstReason() {
        LayeredTable x = Setting.withCoins(1);
        due("too dear and no target", x, Setting.CROWN, 3, LayeredTable.TOO_DEAR);
        x.play(Setting.STRIKE, 0);
        x.pass();
        x.pass();
        Expect.same("player 0 has no coins", x.acting() + x.coins(0), 0);
        due("not now and too dear", x, Setting.BEAST, 0, LayeredTable.NOT_NOW);
        due("not now, too dear and no target", x, Setting.CROWN, 3, LayeredTable.NOT_NOW);
        due("too dear and no target", x, Setting.STRIKE, 3, LayeredTable.TOO_DEAR);
        due("too dear and no target", x, Setting.DENY, 1, LayeredTable.TOO_DEAR);
        x = Setting.withCoins(0);
        Setting.reachTurn(x, 0, 12);
        for (int i = 0; i < 12; i++) {
            Setting.passTo(x, 0);
            x.play(Setting.STRIKE, 0);
        }
        Expect.same("player 1 may act", x.acting(), 1);
        due("no target and a full stack", x, Setting.STRIKE, 3, LayeredTable.NO_TARGET);
        due("no target and a full stack", x, Setting.DENY, 12, LayeredTable.NO_TARGET);
        due("not now, no target and a full stack", x, Setting.CROWN, 3, LayeredTable.NOT_NOW);
        Setting.passTo(x, 0);
        Expect.same("player 0 has no coins", x.coins(0), 0);
        due("too dear and a full stack", x, Setting.STRIKE, 0, LayeredTable.TOO_DEAR);
        due("too dear, no target and a full stack", x, Setting.DENY, 12, LayeredTable.TOO_DEAR);
        due("not now, too dear and a full stack", x, Setting.BEAST, 0, LayeredTable.NOT_NOW);
    }

    /** Promise 3 tells only: a question, whatever its answer, changes nothing. */
    private static void testObstacleChangesNothing() {
        Twins.stayAlike("obstacle", x -> {
            for (int card = 0; card < 14; card++) {
                for (int target = -1; target <= 12; target++) {
                    x.obstacle(card, target);
                }
            }
        });
    }
}
