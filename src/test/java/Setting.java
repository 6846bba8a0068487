/** Brings a table into the state that a test needs, and tells a whole state as one text. */
final class Setting {
    static final int BEAST = 0, TOWER = 1, BANNER = 2, FOG = 3, TIDE = 4, MASK = 5, VEIL = 6, CROWN = 7;
    static final int MIRROR = 8, BELL = 9, PYRE = 10, ALTAR = 11, STRIKE = 12, DENY = 13;
    static final int[] COST = {2, 3, 3, 3, 3, 2, 2, 4, 3, 2, 3, 3, 1, 1};

    private Setting() {
    }

    /** Passes until the player has the turn, the stack is empty and there are so many coins at least. */
    static void reachTurn(LayeredTable x, int player, int coins) {
        for (int i = 0; i < 400; i++) {
            if (x.turn() == player && x.acting() == player && x.stack() == 0 && x.coins(player) >= coins) {
                return;
            }
            x.pass();
        }
        throw new IllegalStateException("the turn was not reached");
    }

    /** Passes, at most twice, until the player may act. */
    static void passTo(LayeredTable x, int player) {
        for (int i = 0; i < 2 && x.acting() != player; i++) {
            x.pass();
        }
        Expect.same("who may act", x.acting(), player);
    }

    static void passTurn(LayeredTable x) {
        x.pass();
        x.pass();
        Expect.same("the third pass on an empty stack", x.pass(), LayeredTable.TURNED);
    }

    /** Plays a thing in the player's turn and lets it, but none of its triggers, take effect. */
    static void lay(LayeredTable x, int player, int card, int target) {
        reachTurn(x, player, COST[card]);
        x.play(card, target);
        x.settle(1);
    }

    /** A new object on whose table the cards lie, one after the other, each a pair of card and player. */
    static LayeredTable with(int... cardsAndPlayers) {
        LayeredTable x = new LayeredTable();
        for (int i = 0; i < cardsAndPlayers.length; i += 2) {
            lay(x, cardsAndPlayers[i + 1], cardsAndPlayers[i], 0);
        }
        return x;
    }

    /** Like with, but the triggers have taken effect, too, so that the stack is empty. */
    static LayeredTable settled(int... cardsAndPlayers) {
        LayeredTable x = with(cardsAndPlayers);
        x.settle(60);
        return x;
    }

    /** Ten things: nine of one card and a BEAST as the last one, all of them player 0's; the stack is empty. */
    static LayeredTable fullTable(int card) {
        LayeredTable x = new LayeredTable();
        for (int i = 0; i < 9; i++) {
            lay(x, 0, card, 0);
            x.settle(60);
        }
        lay(x, 0, BEAST, 0);
        x.settle(60);
        Expect.same("a full table", x.things(), 10);
        return x;
    }

    /** Player 0 has the turn and just so many coins; a BEAST of player 1 is too strong for each STRIKE. */
    static LayeredTable withCoins(int coins) {
        LayeredTable x = with(BEAST, 1, TIDE, 1, BANNER, 1);
        reachTurn(x, 0, coins);
        while (x.coins(0) > coins) {
            x.play(STRIKE, 0);
            x.settle(1);
        }
        Expect.same("the coins of player 0", x.coins(0), coins);
        Expect.text("the things", cards(x), "0 4 2");
        return x;
    }

    /** A stack of so many STRIKEs at the first thing, a BEAST; no state in which they hit is of interest. */
    static LayeredTable withStrikes(int strikes) {
        LayeredTable x = with(BEAST, 0);
        reachTurn(x, 2, 9);
        for (int i = 0; i < strikes; i++) {
            Expect.same("the stack behind a STRIKE", x.play(STRIKE, 0), i + 1);
        }
        return x;
    }

    /** Plays a spell and lets it, but none of its triggers, take effect. */
    static void cast(LayeredTable x, int card, int target) {
        x.play(card, target);
        x.settle(1);
    }

    static String cards(LayeredTable x) {
        StringBuilder text = new StringBuilder();
        for (int place = 0; place < x.things(); place++) {
            text.append(place == 0 ? "" : " ").append(x.cardOf(place));
        }
        return text.toString();
    }

    /** From the top: the card, ! for a trigger or . for a card, the player, and the target behind > if there is one. */
    static String stack(LayeredTable x) {
        StringBuilder text = new StringBuilder();
        for (int place = 0; place < x.stack(); place++) {
            text.append(place == 0 ? "" : " ").append(x.entryCard(place));
            text.append(x.isTrigger(place) ? '!' : '.').append(x.entryPlayer(place));
            if (x.entryTarget(place) != LayeredTable.NONE) {
                text.append('>').append(x.entryTarget(place));
            }
        }
        return text.toString();
    }

    static String strengths(LayeredTable x, int layer) {
        StringBuilder text = new StringBuilder();
        for (int place = 0; place < x.things(); place++) {
            text.append(place == 0 ? "" : " ").append(x.strengthOf(place, layer));
        }
        return text.toString();
    }

    static String kinds(LayeredTable x, int layer) {
        StringBuilder text = new StringBuilder();
        for (int place = 0; place < x.things(); place++) {
            text.append(place == 0 ? "" : " ").append(x.kindsOf(place, layer));
        }
        return text.toString();
    }

    static String controllers(LayeredTable x, int layer) {
        StringBuilder text = new StringBuilder();
        for (int place = 0; place < x.things(); place++) {
            text.append(place == 0 ? "" : " ").append(x.controllerOf(place, layer));
        }
        return text.toString();
    }

    static String coins(LayeredTable x) {
        return x.coins(0) + " " + x.coins(1) + " " + x.coins(2);
    }

    static String whole(LayeredTable x) {
        StringBuilder text = new StringBuilder();
        text.append("turn ").append(x.turn()).append(" acting ").append(x.acting());
        text.append(" rounds ").append(x.rounds()).append(" loops ").append(x.loops());
        text.append(" coins ").append(coins(x)).append(" cards ").append(cards(x)).append(" stack ").append(stack(x));
        for (int layer = 0; layer <= 5; layer++) {
            text.append(" layer ").append(layer).append(": ").append(controllers(x, layer));
            text.append("; ").append(kinds(x, layer)).append("; ").append(strengths(x, layer));
        }
        return text.toString();
    }
}
