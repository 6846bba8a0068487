/** Promise 3: obstacle. */
final class ObstacleTest {
    public static void main(String[] args) {
        testThings();
        testTooDear();
        testTargets();
        testFullStack();
        testFirstReason();
        testWrongCards();
        Expect.finish();
    }

    private static void due(String what, LayeredTable x, int card, int target, int due) {
        String before = Setting.whole(x);
        Expect.same("promise 3: " + what + ": obstacle(" + card + ", " + target + ")", x.obstacle(card, target), due);
        if (due == LayeredTable.PLAYABLE) {
            Expect.text("promise 3: " + what + " changes nothing", Setting.whole(x), before);
        } else {
            Expect.thrown("promise 3: " + what + ": play(" + card + ", " + target + ")", IllegalStateException.class,
                () -> x.play(card, target));
            Expect.text("promise 3: " + what + " changes nothing", Setting.whole(x), before);
        }
    }

    private static void testThings() {
        LayeredTable x = Setting.with(Setting.BEAST, 0);
        for (int card = 0; card < 12; card++) {
            due("a thing in one's turn", x, card, 0, LayeredTable.PLAYABLE);
        }
        x.pass();
        for (int card = 0; card < 12; card++) {
            due("a thing in another's turn", x, card, 0, LayeredTable.NOT_NOW);
        }
        due("a spell in another's turn", x, Setting.STRIKE, 0, LayeredTable.PLAYABLE);
        x.pass();
        x.pass();
        x.play(Setting.STRIKE, 0);
        x.pass();
        x.pass();
        Expect.same("promise 3: the turn's player acts", x.acting(), x.turn());
        for (int card = 0; card < 12; card++) {
            due("a thing on a stack", x, card, 0, LayeredTable.NOT_NOW);
        }
        due("a spell on a stack", x, Setting.STRIKE, 0, LayeredTable.PLAYABLE);
        due("a spell on a stack", x, Setting.DENY, 0, LayeredTable.PLAYABLE);
    }

    private static void testTooDear() {
        for (int coins = 0; coins <= 6; coins++) {
            LayeredTable x = Setting.withCoins(coins);
            for (int card = 0; card < 13; card++) {
                int due = Setting.COST[card] <= coins ? LayeredTable.PLAYABLE : LayeredTable.TOO_DEAR;
                due("with " + coins + " coins", x, card, 0, due);
            }
            due("with " + coins + " coins", x, 13, 0, coins > 0 ? LayeredTable.NO_TARGET : LayeredTable.TOO_DEAR);
        }
    }

    private static void testTargets() {
        LayeredTable x = new LayeredTable();
        due("an empty table", x, Setting.CROWN, 0, LayeredTable.NO_TARGET);
        due("an empty table", x, Setting.STRIKE, 0, LayeredTable.NO_TARGET);
        due("an empty stack", x, Setting.DENY, 0, LayeredTable.NO_TARGET);

        x = Setting.with(Setting.BELL, 0, Setting.BEAST, 1);
        x.play(Setting.STRIKE, 1);
        Expect.text("promise 3: a trigger on the stack", Setting.stack(x), "12.1>1 9!0");
        due("a card", x, Setting.DENY, 0, LayeredTable.PLAYABLE);
        due("a trigger", x, Setting.DENY, 1, LayeredTable.NO_TARGET);
        due("below the stack", x, Setting.DENY, 2, LayeredTable.NO_TARGET);
        due("above the stack", x, Setting.DENY, -1, LayeredTable.NO_TARGET);
        due("the first thing", x, Setting.STRIKE, 0, LayeredTable.PLAYABLE);
        due("the last thing", x, Setting.STRIKE, 1, LayeredTable.PLAYABLE);
        due("behind the last thing", x, Setting.STRIKE, 2, LayeredTable.NO_TARGET);
        due("ahead of the first thing", x, Setting.STRIKE, -1, LayeredTable.NO_TARGET);
        due("far off", x, Setting.STRIKE, Integer.MAX_VALUE, LayeredTable.NO_TARGET);
        due("far off", x, Setting.DENY, Integer.MIN_VALUE, LayeredTable.NO_TARGET);
        x.settle(60);
        Setting.reachTurn(x, 0, 4);
        due("the only thing", x, Setting.CROWN, 0, LayeredTable.PLAYABLE);
        due("behind the only thing", x, Setting.CROWN, 1, LayeredTable.NO_TARGET);
        due("ahead of the only thing", x, Setting.CROWN, -1, LayeredTable.NO_TARGET);
        due("any target", x, Setting.BEAST, -7, LayeredTable.PLAYABLE);
    }

    private static void testFullStack() {
        LayeredTable x = Setting.withStrikes(12);
        due("a full stack", x, Setting.STRIKE, 0, LayeredTable.STACK_FULL);
        due("a full stack", x, Setting.DENY, 11, LayeredTable.STACK_FULL);
        x.settle(1);
        due("room again", x, Setting.DENY, 10, LayeredTable.PLAYABLE);
    }

    private static void testFirstReason() {
        LayeredTable x = Setting.withStrikes(12);
        due("no target ahead of a full stack", x, Setting.STRIKE, 1, LayeredTable.NO_TARGET);
        due("no target ahead of a full stack", x, Setting.DENY, 12, LayeredTable.NO_TARGET);
        due("not now ahead of a full stack", x, Setting.CROWN, 7, LayeredTable.NOT_NOW);

        x = new LayeredTable();
        x.play(Setting.BANNER, 0);
        x.settle(1);
        x.play(Setting.BEAST, 0);
        x.pass();
        x.pass();
        due("not now ahead of too dear", x, Setting.BEAST, 0, LayeredTable.NOT_NOW);
        due("not now ahead of too dear and no target", x, Setting.CROWN, 9, LayeredTable.NOT_NOW);
        x.settle(1);
        due("too dear ahead of no target", x, Setting.CROWN, 9, LayeredTable.TOO_DEAR);
        x.play(Setting.STRIKE, 0);
        x.pass();
        x.pass();
        due("too dear ahead of no target", x, Setting.STRIKE, 9, LayeredTable.TOO_DEAR);
        due("too dear ahead of no target", x, Setting.DENY, 9, LayeredTable.TOO_DEAR);
    }

    private static void testWrongCards() {
        LayeredTable x = Setting.with(Setting.BEAST, 0);
        String before = Setting.whole(x);
        int[] cards = {Integer.MIN_VALUE, -1, 14, Integer.MAX_VALUE};
        for (int card : cards) {
            Expect.thrown("promise 3: " + card, IndexOutOfBoundsException.class, () -> x.obstacle(card, 0));
        }
        Expect.text("promise 3: a call that throws changes nothing", Setting.whole(x), before);
    }
}
