/** The edges that the cards' own words name; each remark names the sentence of the document that is held. */
final class CardEdgesTest {
    public static void main(String[] args) {
        testTowerInOwnTurn();
        testBellForAnotherThing();
        testPyreForAnotherThing();
        testPyreOnFullTable();
        testPyreOfCrownedThing();
        testAltarForAnotherThing();
        testAltarWithoutBeast();
        testAltarTakesFirstBeast();
        testCrownTargetGoneBefore();
        testCrownTargetGoneAfterwards();
        testStrikeStrengths();
        testStrikeStrengthIsFoundAnew();
        testStrikeTargetGone();
        testStrikeTargetHasMoved();
        testDenyTargetGone();
        testDenyWithoutEffect();
        testDenyOfDeny();
        testDenyBelowTrigger();
        Expect.finish();
    }

    /** TOWER: "Trigger when a turn of its controller begins", neither another's turn nor one that has begun. */
    private static void testTowerInOwnTurn() {
        LayeredTable x = Setting.with(Setting.TOWER, 2);
        Expect.text("the turn in which it is played", Setting.stack(x), "");
        Setting.passTurn(x);
        Expect.text("the turn of player 0", Setting.stack(x), "");
        Setting.passTurn(x);
        Expect.text("the turn of player 1", Setting.stack(x), "");
        Setting.passTurn(x);
        Expect.text("the turn of player 2", Setting.stack(x), "1!2");
        int coins = x.coins(2);
        x.settle(1);
        Expect.same("its controller gets 2 coins", x.coins(2), coins + 2);
    }

    /** BELL: "trigger when another thing enters", not when it enters itself or a thing leaves. */
    private static void testBellForAnotherThing() {
        LayeredTable x = Setting.with(Setting.BELL, 0);
        Expect.text("itself", Setting.stack(x), "");
        Setting.lay(x, 1, Setting.BELL, 0);
        Expect.text("another BELL: just the first rings", Setting.stack(x), "9!0");
        int coins = x.coins(0);
        x.settle(60);
        Expect.same("its controller gets 1 coin", x.coins(0), coins + 1);
        x.play(Setting.STRIKE, 1);
        x.settle(1);
        Expect.text("a thing that leaves", Setting.stack(x), "");
    }

    /** PYRE: "trigger when another thing leaves", not when it leaves itself or a thing enters. */
    private static void testPyreForAnotherThing() {
        LayeredTable x = Setting.with(Setting.PYRE, 0, Setting.MASK, 1, Setting.PYRE, 2);
        Expect.text("things that enter", Setting.stack(x), "");
        x.play(Setting.STRIKE, 0);
        x.settle(1);
        Expect.text("a PYRE leaves: just the other sees it", Setting.stack(x), "10!2");
        x.settle(1);
        Expect.text("a BEAST enters", Setting.cards(x), "5 10 0");
        x.play(Setting.STRIKE, 1);
        x.settle(1);
        Expect.text("the last PYRE leaves: none sees it", Setting.stack(x), "");
        Expect.text("no BEAST enters", Setting.cards(x), "5 0");
    }

    /** PYRE: "a BEAST enters", and Terms: "there are at most 10": on the full table it does not. */
    private static void testPyreOnFullTable() {
        LayeredTable x = Setting.fullTable(Setting.PYRE);
        x.play(Setting.STRIKE, 9);
        x.settle(1);
        Expect.same("nine PYREs have seen it", x.stack(), 9);
        Expect.same("nine things", x.things(), 9);
        x.settle(1);
        Expect.same("the first BEAST makes ten", x.things(), 10);
        Expect.same("all others take effect", x.settle(60), 8);
        Expect.text("but no BEAST enters", Setting.cards(x), "10 10 10 10 10 10 10 10 10 0");
        Expect.same("and nothing has left for that", x.stack(), 0);
    }

    /** PYRE: "as if its controller had played it": ahead of all layers it is the controller's, not the turn's. */
    private static void testPyreOfCrownedThing() {
        LayeredTable x = Setting.with(Setting.PYRE, 0, Setting.MASK, 0);
        Setting.lay(x, 1, Setting.CROWN, 0);
        Setting.reachTurn(x, 2, 1);
        x.play(Setting.STRIKE, 1);
        String coins = Setting.coins(x);
        x.settle(2);
        Expect.text("a BEAST enters", Setting.cards(x), "10 7 0");
        Expect.same("ahead of all layers", x.controllerOf(2, 0), 1);
        Expect.same("behind all layers", x.controllerOf(2, 5), 1);
        Expect.text("nobody pays for it", Setting.coins(x), coins);
    }

    /** ALTAR: "trigger when another thing enters", not when it enters itself, though a BEAST is there. */
    private static void testAltarForAnotherThing() {
        LayeredTable x = Setting.with(Setting.BEAST, 0, Setting.ALTAR, 1);
        Expect.text("itself", Setting.stack(x), "");
        Setting.lay(x, 2, Setting.ALTAR, 0);
        Expect.text("another ALTAR: just the first sees it", Setting.stack(x), "11!1");
    }

    /** ALTAR: "if there is one": without a BEAST nothing leaves, and no PYRE sees anything. */
    private static void testAltarWithoutBeast() {
        LayeredTable x = Setting.with(Setting.PYRE, 0, Setting.ALTAR, 0);
        Setting.lay(x, 1, Setting.TOWER, 0);
        Expect.text("the trigger", Setting.stack(x), "11!0");
        Expect.same("it takes effect", x.settle(1), 1);
        Expect.text("nothing leaves", Setting.cards(x), "10 11 1");
        Expect.text("nothing has left", Setting.stack(x), "");
        Setting.lay(x, 2, Setting.MASK, 0);
        x.settle(60);
        Expect.text("a TOWER of kind A is no BEAST", Setting.cards(x), "10 11 1 5");
    }

    /** ALTAR: "the first BEAST on the table leaves": one of several, a strong or a veiled one, or the new one. */
    private static void testAltarTakesFirstBeast() {
        LayeredTable x = Setting.with(Setting.BEAST, 0, Setting.TIDE, 1, Setting.BANNER, 0, Setting.BEAST, 2,
            Setting.ALTAR, 1);
        Expect.same("too strong for a STRIKE", x.strengthOf(0, 5), 6);
        Setting.lay(x, 0, Setting.VEIL, 0);
        x.settle(60);
        Expect.text("the first one", Setting.cards(x), "4 2 0 11 6");
        Expect.same("the other is veiled", x.kindsOf(2, 5), 2);
        Setting.lay(x, 1, Setting.MASK, 0);
        x.settle(60);
        Expect.text("the veiled one", Setting.cards(x), "4 2 11 6 5");
        Setting.lay(x, 2, Setting.BEAST, 0);
        x.settle(60);
        Expect.text("the new one", Setting.cards(x), "4 2 11 6 5");
    }

    /** CROWN: "the target, if it is on the table": it leaves ahead of the CROWN, and another takes its place. */
    private static void testCrownTargetGoneBefore() {
        LayeredTable x = Setting.with(Setting.BEAST, 0, Setting.BEAST, 0);
        Setting.reachTurn(x, 1, 4);
        x.play(Setting.CROWN, 0);
        x.play(Setting.STRIKE, 0);
        Expect.same("both take effect", x.settle(60), 2);
        Expect.text("the CROWN enters", Setting.cards(x), "0 7");
        Expect.text("the other BEAST is not the target", Setting.controllers(x, 5), "0 1");
    }

    /** CROWN, as above: its target leaves, and another BEAST enters; the CROWN stays. */
    private static void testCrownTargetGoneAfterwards() {
        LayeredTable x = Setting.with(Setting.BEAST, 0, Setting.BEAST, 0);
        Setting.lay(x, 1, Setting.CROWN, 0);
        Expect.text("the target", Setting.controllers(x, 5), "1 0 1");
        x.play(Setting.STRIKE, 0);
        x.settle(60);
        Expect.text("what has moved up is not the target", Setting.controllers(x, 5), "0 1");
        Setting.lay(x, 2, Setting.BEAST, 0);
        Expect.text("nor is what has entered", Setting.controllers(x, 5), "0 1 2");
    }

    /** STRIKE: "a strength of at most 4": 0 to 4 leave, 5 and 6 stay. */
    private static void testStrikeStrengths() {
        struck("0", 0, true, Setting.MASK, 0);
        struck("1", 1, true, Setting.BEAST, 0, Setting.FOG, 0);
        struck("2", 2, true, Setting.BEAST, 0);
        struck("3", 3, true, Setting.BEAST, 0, Setting.FOG, 0, Setting.BANNER, 0);
        struck("4", 4, true, Setting.BEAST, 0, Setting.BANNER, 0);
        struck("5", 5, false, Setting.BEAST, 0, Setting.FOG, 0, Setting.BANNER, 0, Setting.BANNER, 0);
        struck("6", 6, false, Setting.BEAST, 0, Setting.BANNER, 0, Setting.BANNER, 0);
    }

    private static void struck(String what, int strength, boolean leaves, int... cardsAndPlayers) {
        LayeredTable x = Setting.with(cardsAndPlayers);
        Setting.reachTurn(x, 0, 1);
        int things = x.things();
        Expect.same("the strength", x.strengthOf(0, 5), strength);
        x.play(Setting.STRIKE, 0);
        Expect.same("it takes effect", x.settle(1), 1);
        Expect.same("the things behind a STRIKE at " + what, x.things(), leaves ? things - 1 : things);
    }

    /** STRIKE, as above: the strength counts that the target has when the STRIKE takes effect, either way. */
    private static void testStrikeStrengthIsFoundAnew() {
        LayeredTable x = Setting.with(Setting.BEAST, 0, Setting.BANNER, 0, Setting.BANNER, 0);
        Setting.reachTurn(x, 0, 3);
        Expect.same("too strong when it is played", x.strengthOf(0, 5), 6);
        x.play(Setting.STRIKE, 0);
        x.play(Setting.STRIKE, 2);
        x.settle(2);
        Expect.text("weak enough by then", Setting.cards(x), "2");

        x = Setting.with(Setting.BEAST, 0, Setting.BANNER, 0, Setting.BANNER, 0, Setting.FOG, 1, Setting.VEIL, 2);
        Setting.reachTurn(x, 0, 3);
        Expect.same("weak enough when it is played", x.strengthOf(0, 5), 2);
        x.play(Setting.STRIKE, 0);
        x.play(Setting.STRIKE, 4);
        x.settle(2);
        Expect.same("too strong by then", x.strengthOf(0, 5), 5);
        Expect.text("it stays", Setting.cards(x), "0 2 2 3");
    }

    /** STRIKE: "if it is on the table": the second of two at one thing finds nothing. */
    private static void testStrikeTargetGone() {
        LayeredTable x = Setting.with(Setting.PYRE, 2, Setting.BEAST, 0, Setting.MASK, 1);
        x.play(Setting.STRIKE, 1);
        x.play(Setting.STRIKE, 1);
        x.settle(1);
        Expect.text("the first has hit", Setting.stack(x), "10!2 12.1");
        x.settle(1);
        Expect.text("a BEAST enters", Setting.cards(x), "10 5 0");
        Expect.same("the second takes effect", x.settle(1), 1);
        Expect.text("but nothing leaves", Setting.cards(x), "10 5 0");
        Expect.text("and nothing has left", Setting.stack(x), "");
    }

    /** STRIKE, as above: a target that has moved up is the target still. */
    private static void testStrikeTargetHasMoved() {
        LayeredTable x = Setting.with(Setting.BEAST, 0, Setting.MASK, 0, Setting.VEIL, 0);
        Setting.reachTurn(x, 0, 2);
        x.play(Setting.STRIKE, 1);
        x.play(Setting.STRIKE, 0);
        x.settle(2);
        Expect.text("the BEAST and the MASK have left", Setting.cards(x), "6");
    }

    /** DENY: "if it is there": its target is taken by another DENY first; what lies in its place stays. */
    private static void testDenyTargetGone() {
        LayeredTable x = Setting.withStrikes(3);
        x.play(Setting.DENY, 1);
        x.play(Setting.DENY, 2);
        Expect.text("two DENYs of one card", Setting.stack(x), "13.0>3 13.2>3 12.1>0 12.0>0 12.2>0");
        x.settle(1);
        Expect.text("the target is gone", Setting.stack(x), "13.2 12.1>0 12.2>0");
        Expect.same("the second takes effect", x.settle(1), 1);
        Expect.text("but takes nothing", Setting.stack(x), "12.1>0 12.2>0");
    }

    /** DENY: "it is taken from the stack without effect": a thing neither enters nor leaves. */
    private static void testDenyWithoutEffect() {
        LayeredTable x = Setting.settled(Setting.PYRE, 0, Setting.BELL, 1);
        Setting.reachTurn(x, 0, 3);
        x.play(Setting.BEAST, 0);
        x.play(Setting.DENY, 0);
        Expect.same("just the DENY takes effect", x.settle(60), 1);
        Expect.text("no BEAST", Setting.cards(x), "10 9");
        Expect.text("no trigger", Setting.stack(x), "");
    }

    /** DENY, as above: a DENY can be denied, and its target takes effect then. */
    private static void testDenyOfDeny() {
        LayeredTable x = new LayeredTable();
        x.play(Setting.BEAST, 0);
        x.play(Setting.DENY, 0);
        x.play(Setting.DENY, 0);
        Expect.same("the upper DENY and the BEAST", x.settle(60), 2);
        Expect.text("the BEAST enters", Setting.cards(x), "0");
    }

    /** DENY, as above, from below a trigger: what lies above it stays what it is. */
    private static void testDenyBelowTrigger() {
        LayeredTable x = Setting.with(Setting.PYRE, 0, Setting.MASK, 1);
        x.play(Setting.STRIKE, 0);
        Setting.cast(x, Setting.STRIKE, 1);
        Expect.text("a trigger on a card", Setting.stack(x), "10!0 12.1>0");
        Setting.cast(x, Setting.DENY, 1);
        Expect.text("just the trigger", Setting.stack(x), "10!0");
        x.settle(1);
        Expect.text("takes effect", Setting.cards(x), "10 0");
    }
}
