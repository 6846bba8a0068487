/** Promises 13 to 16: controllerOf, kindsOf, strengthOf and power. */
final class LayersTest {
    public static void main(String[] args) {
        testAheadOfAllLayers();
        testCrown();
        testCrownOfCrown();
        testCrownFollowsItsTarget();
        testMaskAndVeil();
        testFogAndTide();
        testBanner();
        testMirror();
        testKindsDecideStrengths();
        testEffectsEndWithTheirThings();
        testPower();
        testWrongCalls();
        Expect.finish();
    }

    private static void testAheadOfAllLayers() {
        for (int card = 0; card < 12; card++) {
            LayeredTable x = Setting.with(Setting.PYRE, 0);
            Setting.lay(x, 1, card, 0);
            int kinds = card == Setting.BEAST ? 1 : card == Setting.TOWER ? 2 : 4;
            int strength = card == Setting.BEAST ? 2 : card == Setting.TOWER ? 1 : 0;
            Expect.same("promise 13: who played " + card, x.controllerOf(1, 0), 1);
            Expect.same("promise 14: the kinds of " + card, x.kindsOf(1, 0), kinds);
            Expect.same("promise 15: the strength of " + card, x.strengthOf(1, 0), strength);
        }
    }

    private static void testCrown() {
        LayeredTable x = Setting.with(Setting.BEAST, 0);
        Setting.lay(x, 1, Setting.CROWN, 0);
        Expect.text("promise 13: ahead of layer 1", Setting.controllers(x, 0), "0 1");
        for (int layer = 1; layer <= 5; layer++) {
            Expect.text("promise 13: behind layer " + layer, Setting.controllers(x, layer), "1 1");
        }
        Setting.lay(x, 2, Setting.CROWN, 0);
        Expect.text("promise 13: the later CROWN", Setting.controllers(x, 5), "2 1 2");
        x.play(Setting.STRIKE, 2);
        x.settle(1);
        Expect.text("promise 13: the earlier CROWN again", Setting.controllers(x, 5), "1 1");
        x.play(Setting.STRIKE, 1);
        x.settle(1);
        Expect.text("promise 13: no CROWN any more", Setting.controllers(x, 5), "0");
    }

    /** It counts who played a CROWN, not who controls it. */
    private static void testCrownOfCrown() {
        LayeredTable x = Setting.with(Setting.BEAST, 0);
        Setting.lay(x, 1, Setting.CROWN, 0);
        Setting.lay(x, 2, Setting.CROWN, 1);
        Expect.text("promise 13: a crowned CROWN", Setting.controllers(x, 5), "1 2 2");
        Expect.text("promise 13: ahead of the layers", Setting.controllers(x, 0), "0 1 2");
    }

    private static void testCrownFollowsItsTarget() {
        LayeredTable x = Setting.with(Setting.MASK, 0, Setting.BEAST, 0);
        Setting.lay(x, 1, Setting.CROWN, 1);
        x.play(Setting.STRIKE, 0);
        x.settle(1);
        Expect.text("promise 13: the target has moved up", Setting.controllers(x, 5), "1 1");
        x.play(Setting.STRIKE, 0);
        x.settle(1);
        Expect.text("promise 13: the target has left", Setting.controllers(x, 5), "1");
        Setting.lay(x, 2, Setting.BEAST, 0);
        Expect.text("promise 13: another BEAST is not the target", Setting.controllers(x, 5), "1 2");
    }

    private static void testMaskAndVeil() {
        LayeredTable x = Setting.with(Setting.BEAST, 0, Setting.TOWER, 1, Setting.BELL, 2);
        Expect.text("promise 14: no effect", Setting.kinds(x, 5), "1 2 4");
        Setting.lay(x, 0, Setting.MASK, 0);
        Expect.text("promise 14: ahead of layer 2", Setting.kinds(x, 1), "1 2 4 4");
        Expect.text("promise 14: a MASK", Setting.kinds(x, 2), "1 3 4 4");
        Setting.lay(x, 0, Setting.VEIL, 0);
        Expect.text("promise 14: ahead of layer 2", Setting.kinds(x, 1), "1 2 4 4 4");
        Expect.text("promise 14: a VEIL takes what was of kind A", Setting.kinds(x, 2), "2 3 4 4 4");
        Setting.lay(x, 0, Setting.MASK, 0);
        Expect.text("promise 14: a MASK takes what was of kind B", Setting.kinds(x, 5), "2 3 4 4 4 4");

        x = Setting.with(Setting.VEIL, 0, Setting.BEAST, 1);
        Expect.text("promise 14: a VEIL as the first thing", Setting.kinds(x, 5), "4 2");
        x = Setting.with(Setting.TOWER, 0, Setting.VEIL, 1, Setting.BEAST, 2, Setting.MASK, 0);
        Expect.text("promise 14: a VEIL ahead of a MASK", Setting.kinds(x, 2), "3 4 2 4");
        for (int layer = 3; layer <= 5; layer++) {
            Expect.text("promise 14: behind layer " + layer, Setting.kinds(x, layer), "3 4 2 4");
        }
    }

    private static void testFogAndTide() {
        LayeredTable x = Setting.with(Setting.BEAST, 0, Setting.TOWER, 1, Setting.FOG, 2);
        Expect.text("promise 15: ahead of layer 3", Setting.strengths(x, 2), "2 1 0");
        Expect.text("promise 15: a FOG", Setting.strengths(x, 3), "1 1 0");
        Setting.lay(x, 0, Setting.TIDE, 0);
        Expect.text("promise 15: a TIDE behind it", Setting.strengths(x, 3), "4 1 0 0");
        Setting.lay(x, 1, Setting.FOG, 0);
        Expect.text("promise 15: a FOG behind that", Setting.strengths(x, 3), "1 1 0 0 0");
        Setting.lay(x, 2, Setting.MASK, 0);
        Setting.lay(x, 0, Setting.TIDE, 0);
        Expect.text("promise 15: a masked TOWER too", Setting.strengths(x, 5), "4 4 0 0 0 0 0");
        Expect.text("promise 15: ahead of layer 3", Setting.strengths(x, 2), "2 1 0 0 0 0 0");
    }

    private static void testBanner() {
        LayeredTable x = Setting.with(Setting.BEAST, 0, Setting.BEAST, 1, Setting.TOWER, 0, Setting.BANNER, 0);
        Expect.text("promise 15: ahead of layer 4", Setting.strengths(x, 3), "2 2 1 0");
        Expect.text("promise 15: a BANNER", Setting.strengths(x, 4), "4 2 1 0");
        Setting.lay(x, 0, Setting.BANNER, 0);
        Expect.text("promise 15: two BANNERs", Setting.strengths(x, 4), "6 2 1 0 0");
        Setting.lay(x, 1, Setting.CROWN, 3);
        Expect.text("promise 15: a crowned BANNER", Setting.strengths(x, 4), "4 4 1 0 0 0");
        Setting.lay(x, 0, Setting.CROWN, 1);
        Expect.text("promise 15: a crowned BEAST", Setting.strengths(x, 4), "4 4 1 0 0 0 0");
        Setting.lay(x, 0, Setting.FOG, 1);
        Expect.text("promise 15: a FOG comes first", Setting.strengths(x, 4), "3 3 1 0 0 0 0 0");
    }

    private static void testMirror() {
        LayeredTable x = Setting.with(Setting.BEAST, 0, Setting.BEAST, 1, Setting.MIRROR, 2);
        Expect.text("promise 15: a strength of 2", Setting.strengths(x, 5), "2 2 0");
        Setting.lay(x, 0, Setting.BANNER, 0);
        Expect.text("promise 15: ahead of layer 5", Setting.strengths(x, 4), "4 2 0 0");
        Expect.text("promise 15: a strength of 4 doubled", Setting.strengths(x, 5), "8 2 0 0");
        Setting.lay(x, 1, Setting.MIRROR, 0);
        Expect.text("promise 15: doubled twice", Setting.strengths(x, 5), "16 2 0 0 0");
        Setting.lay(x, 1, Setting.FOG, 0);
        Expect.text("promise 15: a strength of 3", Setting.strengths(x, 4), "3 1 0 0 0 0");
        Expect.text("promise 15: doubled twice", Setting.strengths(x, 5), "12 1 0 0 0 0");
        Setting.lay(x, 1, Setting.BANNER, 0);
        Setting.lay(x, 2, Setting.VEIL, 0);
        Expect.text("promise 15: not of kind A", Setting.strengths(x, 5), "2 2 0 0 0 0 0 0");
    }

    /** Layer 5 asks for the strength at its beginning: the first MIRROR does not lift 2 to 4 for the second. */
    private static void testKindsDecideStrengths() {
        LayeredTable x = Setting.with(Setting.TOWER, 0, Setting.TIDE, 1, Setting.MIRROR, 2, Setting.BANNER, 0);
        Expect.text("promise 15: a TOWER", Setting.strengths(x, 5), "1 0 0 0");
        Setting.lay(x, 1, Setting.MASK, 0);
        Expect.text("promise 15: layer 2", Setting.strengths(x, 2), "1 0 0 0 0");
        Expect.text("promise 15: layer 3", Setting.strengths(x, 3), "4 0 0 0 0");
        Expect.text("promise 15: layer 4", Setting.strengths(x, 4), "6 0 0 0 0");
        Expect.text("promise 15: layer 5", Setting.strengths(x, 5), "12 0 0 0 0");
        Setting.lay(x, 1, Setting.VEIL, 0);
        Expect.text("promise 15: it was not of kind A at first", Setting.strengths(x, 5), "12 0 0 0 0 0");
    }

    private static void testEffectsEndWithTheirThings() {
        LayeredTable x = Setting.with(Setting.BEAST, 0, Setting.FOG, 1, Setting.VEIL, 2);
        Expect.text("promise 14: a VEIL", Setting.kinds(x, 5), "2 4 4");
        x.play(Setting.STRIKE, 2);
        x.settle(1);
        Expect.text("promise 14: it has left", Setting.kinds(x, 5), "1 4");
        Expect.text("promise 15: a FOG", Setting.strengths(x, 5), "1 0");
        x.play(Setting.STRIKE, 1);
        x.settle(1);
        Expect.text("promise 15: it has left", Setting.strengths(x, 5), "2");
    }

    private static void power(String what, LayeredTable x, int first, int second, int third) {
        Expect.same("promise 16: " + what, x.power(0), first);
        Expect.same("promise 16: " + what, x.power(1), second);
        Expect.same("promise 16: " + what, x.power(2), third);
    }

    private static void testPower() {
        LayeredTable x = new LayeredTable();
        power("an empty table", x, 0, 0, 0);
        x = Setting.with(Setting.BEAST, 0, Setting.BEAST, 0, Setting.BEAST, 1, Setting.TOWER, 2);
        power("three BEASTs", x, 4, 2, 0);
        Setting.lay(x, 2, Setting.MASK, 0);
        power("a masked TOWER", x, 4, 2, 1);
        Setting.lay(x, 2, Setting.CROWN, 0);
        power("a crowned BEAST", x, 2, 2, 3);
        Setting.lay(x, 2, Setting.TIDE, 0);
        power("a TIDE", x, 4, 4, 8);
        Setting.lay(x, 1, Setting.MIRROR, 0);
        power("a MIRROR", x, 8, 8, 16);
        Setting.lay(x, 1, Setting.VEIL, 0);
        power("a VEIL", x, 0, 0, 8);
        Expect.same("promise 16: an answer about another layer", x.strengthOf(3, 0), 1);
        Expect.same("promise 16: does not change the power", x.power(2), 8);
    }

    private static void testWrongCalls() {
        LayeredTable x = Setting.with(Setting.BEAST, 0, Setting.MASK, 1);
        String before = Setting.whole(x);
        int[] places = {Integer.MIN_VALUE, -1, 2, 10, Integer.MAX_VALUE};
        int[] layers = {Integer.MIN_VALUE, -1, 6, Integer.MAX_VALUE};
        for (int place : places) {
            wrong(x, place, 0, IndexOutOfBoundsException.class);
            wrong(x, place, 5, IndexOutOfBoundsException.class);
            for (int layer : layers) {
                wrong(x, place, layer, IndexOutOfBoundsException.class);
            }
        }
        for (int layer : layers) {
            wrong(x, 0, layer, IllegalArgumentException.class);
            wrong(x, 1, layer, IllegalArgumentException.class);
        }
        int[] players = {Integer.MIN_VALUE, -1, 3, Integer.MAX_VALUE};
        for (int player : players) {
            Expect.thrown("promise 16: power(" + player + ")", IndexOutOfBoundsException.class,
                () -> x.power(player));
        }
        Expect.text("promises 13 to 16: a call that throws changes nothing", Setting.whole(x), before);
    }

    private static void wrong(LayeredTable x, int place, int layer, Class<? extends RuntimeException> due) {
        String at = "(" + place + ", " + layer + ")";
        Expect.thrown("promise 13: controllerOf" + at, due, () -> x.controllerOf(place, layer));
        Expect.thrown("promise 14: kindsOf" + at, due, () -> x.kindsOf(place, layer));
        Expect.thrown("promise 15: strengthOf" + at, due, () -> x.strengthOf(place, layer));
    }
}
