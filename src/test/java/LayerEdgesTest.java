/** The edges of the layers and of promises 13 to 16; each remark names the sentence of the document that is held. */
final class LayerEdgesTest {
    private static final int[] WRONG_LAYERS = {Integer.MIN_VALUE, -2, -1, 6, 7, Integer.MAX_VALUE};

    public static void main(String[] args) {
        testControllerRange();
        testKindsRange();
        testStrengthRange();
        testFirstAndLastLayer();
        testPowerRange();
        testPowerOfNothing();
        testPowerOfKindA();
        testLatestCrown();
        testMirrorLimit();
        testMirrorAtBeginningOfLayer();
        testKindsAtBeginningOfLayer();
        testBannerAtBeginningOfLayer();
        testAsItIsByThen();
        testNoLayerSeesLaterOne();
        testFogAndTideOnKindA();
        testBannerOfSameController();
        testFoundAnew();
        testBehindAllLayers();
        testTenThingsInLayers();
        Expect.finish();
    }

    private static LayeredTable threeThings() {
        return Setting.with(Setting.BEAST, 0, Setting.TOWER, 1, Setting.MASK, 2);
    }

    private static int[] wrongPlaces() {
        return new int[] {Integer.MIN_VALUE, -1, 3, 4, 9, 10, Integer.MAX_VALUE};
    }

    /** Promise 13: "if there is no such thing", "if layer is out of range". */
    private static void testControllerRange() {
        LayeredTable x = threeThings();
        for (int place : wrongPlaces()) {
            Expect.thrown("no thing " + place, IndexOutOfBoundsException.class, () -> x.controllerOf(place, 5));
        }
        for (int layer : WRONG_LAYERS) {
            Expect.thrown("no layer " + layer, IllegalArgumentException.class, () -> x.controllerOf(2, layer));
        }
        Expect.same("the first place and layer", x.controllerOf(0, 0), 0);
        Expect.same("the last place and layer", x.controllerOf(2, 5), 2);
    }

    /** Promise 14: "if there is no such thing", "if layer is out of range". */
    private static void testKindsRange() {
        LayeredTable x = threeThings();
        for (int place : wrongPlaces()) {
            Expect.thrown("no thing " + place, IndexOutOfBoundsException.class, () -> x.kindsOf(place, 5));
        }
        for (int layer : WRONG_LAYERS) {
            Expect.thrown("no layer " + layer, IllegalArgumentException.class, () -> x.kindsOf(2, layer));
        }
        Expect.same("the first place and layer", x.kindsOf(0, 0), 1);
        Expect.same("the last place and layer", x.kindsOf(2, 5), 4);
    }

    /** Promise 15: "if there is no such thing", "if layer is out of range". */
    private static void testStrengthRange() {
        LayeredTable x = threeThings();
        for (int place : wrongPlaces()) {
            Expect.thrown("no thing " + place, IndexOutOfBoundsException.class, () -> x.strengthOf(place, 5));
        }
        for (int layer : WRONG_LAYERS) {
            Expect.thrown("no layer " + layer, IllegalArgumentException.class, () -> x.strengthOf(2, layer));
        }
        Expect.same("the first place and layer", x.strengthOf(0, 0), 2);
        Expect.same("the last place and layer", x.strengthOf(2, 5), 0);
    }

    /** Promises 13 to 15: "0 for ahead of all layers, to 5": each layer's change shows behind it and not before. */
    private static void testFirstAndLastLayer() {
        LayeredTable x = Setting.with(Setting.TOWER, 0, Setting.MASK, 2, Setting.TIDE, 0, Setting.BANNER, 1,
            Setting.MIRROR, 2);
        Setting.lay(x, 1, Setting.CROWN, 0);
        int[] controllers = {0, 1, 1, 1, 1, 1};
        int[] kinds = {2, 2, 3, 3, 3, 3};
        int[] strengths = {1, 1, 1, 4, 6, 12};
        for (int layer = 0; layer <= 5; layer++) {
            Expect.same("the controller behind " + layer, x.controllerOf(0, layer), controllers[layer]);
        }
        for (int layer = 0; layer <= 5; layer++) {
            Expect.same("the kinds behind " + layer, x.kindsOf(0, layer), kinds[layer]);
        }
        for (int layer = 0; layer <= 5; layer++) {
            Expect.same("the strength behind " + layer, x.strengthOf(0, layer), strengths[layer]);
        }
    }

    /** Promise 16: "player: 0 to 2", "Throws IndexOutOfBoundsException if there is no such player". */
    private static void testPowerRange() {
        int[] wrong = {Integer.MIN_VALUE, -1, 3, 4, Integer.MAX_VALUE};
        for (int player : wrong) {
            Twins.stayAlike("power " + player, x -> Expect.thrown("power " + player,
                IndexOutOfBoundsException.class, () -> x.power(player)));
        }
        LayeredTable x = Setting.with(Setting.BEAST, 0, Setting.BEAST, 2, Setting.BANNER, 2);
        Expect.same("the first player", x.power(0), 2);
        Expect.same("the last player", x.power(2), 4);
    }

    /** Promise 16: "all things of kind A that a player controls": none on the empty table, none of another's. */
    private static void testPowerOfNothing() {
        LayeredTable x = new LayeredTable();
        for (int player = 0; player < 3; player++) {
            Expect.same("an empty table, player " + player, x.power(player), 0);
        }
        x = Setting.with(Setting.BEAST, 1, Setting.TOWER, 0, Setting.BELL, 2);
        Expect.text("just one has a thing of kind A", x.power(0) + " " + x.power(1) + " " + x.power(2), "0 2 0");
    }

    /** Promise 16: "behind all layers": masked things count, veiled things do not, crowned things count elsewhere. */
    private static void testPowerOfKindA() {
        LayeredTable x = Setting.with(Setting.TOWER, 0, Setting.MASK, 0);
        Expect.same("a masked TOWER", x.power(0), 1);
        x = Setting.with(Setting.BEAST, 0, Setting.VEIL, 0);
        Expect.same("a veiled BEAST", x.power(0), 0);
        x = Setting.with(Setting.BEAST, 0);
        Setting.lay(x, 1, Setting.CROWN, 0);
        Expect.text("a crowned BEAST", x.power(0) + " " + x.power(1) + " " + x.power(2), "0 2 0");
    }

    /** Layers: "the things that have an effect of this layer are gone through in their order": the last CROWN wins. */
    private static void testLatestCrown() {
        LayeredTable x = Setting.with(Setting.BEAST, 0);
        Setting.lay(x, 2, Setting.CROWN, 0);
        Setting.lay(x, 1, Setting.CROWN, 0);
        Expect.same("the later one", x.controllerOf(0, 5), 1);
        x.play(Setting.STRIKE, 2);
        x.settle(1);
        Expect.same("the only one", x.controllerOf(0, 5), 2);
    }

    /** MIRROR: "with a strength of at least 3": 3 and 4 are doubled, 1 and 2 are not. */
    private static void testMirrorLimit() {
        mirrored(1, 1, Setting.FOG, 0);
        mirrored(2, 2, Setting.TOWER, 0);
        mirrored(3, 6, Setting.FOG, 0, Setting.BANNER, 0);
        mirrored(4, 8, Setting.TIDE, 0);
    }

    private static void mirrored(int strength, int due, int... cardsAndPlayers) {
        LayeredTable x = Setting.with(Setting.BEAST, 0, Setting.MIRROR, 0);
        for (int i = 0; i < cardsAndPlayers.length; i += 2) {
            Setting.lay(x, cardsAndPlayers[i + 1], cardsAndPlayers[i], 0);
        }
        Expect.same("ahead of the MIRROR", x.strengthOf(0, 4), strength);
        Expect.same("behind it", x.strengthOf(0, 5), due);
    }

    /** Layers: "asked of all things as they were at the beginning of the layer": two MIRRORs, each asks for 3 or 2. */
    private static void testMirrorAtBeginningOfLayer() {
        LayeredTable x = Setting.with(Setting.BEAST, 0, Setting.FOG, 0, Setting.BANNER, 0, Setting.MIRROR, 0,
            Setting.MIRROR, 1);
        Expect.same("3 doubled twice", x.strengthOf(0, 5), 12);
        x = Setting.with(Setting.BEAST, 0, Setting.MIRROR, 0, Setting.MIRROR, 1);
        Expect.same("2 not doubled", x.strengthOf(0, 5), 2);
    }

    /** Layers, as above: a MASK's A is not seen by a VEIL, nor a VEIL's B by a MASK, in either order. */
    private static void testKindsAtBeginningOfLayer() {
        LayeredTable x = Setting.with(Setting.BEAST, 0, Setting.TOWER, 0, Setting.MASK, 0, Setting.VEIL, 0);
        Expect.text("the MASK first", Setting.kinds(x, 2), "2 3 4 4");
        x = Setting.with(Setting.BEAST, 0, Setting.TOWER, 0, Setting.VEIL, 0, Setting.MASK, 0);
        Expect.text("the VEIL first", Setting.kinds(x, 2), "2 3 4 4");
    }

    /** Layers, as above: a BANNER asks for the controllers behind layer 1, its own and the others'. */
    private static void testBannerAtBeginningOfLayer() {
        LayeredTable x = Setting.with(Setting.BANNER, 0, Setting.BEAST, 0, Setting.BEAST, 1);
        Expect.text("uncrowned", Setting.strengths(x, 4), "0 4 2");
        Setting.lay(x, 1, Setting.CROWN, 0);
        Expect.text("a crowned BANNER", Setting.strengths(x, 4), "0 2 4 0");
        Setting.lay(x, 1, Setting.CROWN, 1);
        Expect.text("a crowned BEAST, too", Setting.strengths(x, 4), "0 4 4 0 0");
    }

    /** Layers: "what it does to a thing is done to it as it is by then": two BANNERs, and a TIDE behind a FOG. */
    private static void testAsItIsByThen() {
        LayeredTable x = Setting.with(Setting.BEAST, 0, Setting.BANNER, 0, Setting.BANNER, 0);
        Expect.same("two BANNERs", x.strengthOf(0, 4), 6);
        x = Setting.with(Setting.BEAST, 0, Setting.FOG, 0, Setting.TIDE, 0);
        Expect.same("the TIDE last", x.strengthOf(0, 3), 4);
        x = Setting.with(Setting.BEAST, 0, Setting.TIDE, 0, Setting.FOG, 0);
        Expect.same("the FOG last", x.strengthOf(0, 3), 1);
        x = Setting.with(Setting.BEAST, 0, Setting.VEIL, 0, Setting.VEIL, 0);
        Expect.same("two VEILs", x.kindsOf(0, 2), 2);
        x = Setting.with(Setting.TOWER, 0, Setting.MASK, 0, Setting.MASK, 0);
        Expect.same("two MASKs", x.kindsOf(0, 2), 3);
    }

    /** Terms: "a layer never sees a later one": a FOG behind a BANNER still comes first, a MIRROR ahead comes last. */
    private static void testNoLayerSeesLaterOne() {
        LayeredTable x = Setting.with(Setting.MIRROR, 0, Setting.BANNER, 0, Setting.FOG, 0, Setting.MASK, 0,
            Setting.TOWER, 0);
        Expect.text("layer 3", Setting.strengths(x, 3), "0 0 0 0 1");
        Expect.text("layer 4", Setting.strengths(x, 4), "0 0 0 0 3");
        Expect.text("layer 5", Setting.strengths(x, 5), "0 0 0 0 6");
    }

    /** FOG and TIDE: "things of kind A": neither B nor C, but what a MASK has made A; a VEIL takes it away. */
    private static void testFogAndTideOnKindA() {
        LayeredTable x = Setting.with(Setting.BEAST, 0, Setting.TOWER, 0, Setting.TIDE, 1);
        Expect.text("a TIDE", Setting.strengths(x, 5), "4 1 0");
        Setting.lay(x, 0, Setting.MASK, 0);
        Expect.text("and a MASK", Setting.strengths(x, 5), "4 4 0 0");
        Setting.lay(x, 0, Setting.VEIL, 0);
        Expect.text("and a VEIL", Setting.strengths(x, 5), "2 4 0 0 0");
        Setting.lay(x, 0, Setting.FOG, 0);
        Expect.text("and a FOG", Setting.strengths(x, 5), "2 1 0 0 0 0");
    }

    /** BANNER: "which have the same controller as the banner": for each pair of players. */
    private static void testBannerOfSameController() {
        for (int banner = 0; banner < 3; banner++) {
            LayeredTable x = Setting.with(Setting.BEAST, 0, Setting.BEAST, 1, Setting.BEAST, 2, Setting.BANNER, banner);
            for (int player = 0; player < 3; player++) {
                Expect.same("the BEAST of " + player + " and the BANNER of " + banner, x.strengthOf(player, 5),
                    player == banner ? 4 : 2);
            }
        }
    }

    /** Terms: "What is true is always found anew from the things on the table": all is as before when they leave. */
    private static void testFoundAnew() {
        LayeredTable x = Setting.with(Setting.BEAST, 0);
        Setting.lay(x, 1, Setting.CROWN, 0);
        Setting.lay(x, 1, Setting.VEIL, 0);
        Setting.lay(x, 1, Setting.FOG, 0);
        Expect.text("with them", x.controllerOf(0, 5) + " " + x.kindsOf(0, 5) + " " + x.strengthOf(0, 5), "1 2 2");
        Setting.reachTurn(x, 0, 3);
        for (int i = 0; i < 3; i++) {
            x.play(Setting.STRIKE, 1);
            x.settle(1);
        }
        Expect.text("without", x.controllerOf(0, 5) + " " + x.kindsOf(0, 5) + " " + x.strengthOf(0, 5), "0 1 2");
    }

    /** Layers: "Wherever else a controller, a kind or a strength is asked for, it is that behind all layers". */
    private static void testBehindAllLayers() {
        LayeredTable x = Setting.with(Setting.BEAST, 0, Setting.TIDE, 0, Setting.MIRROR, 0);
        Setting.reachTurn(x, 0, 3);
        Expect.same("weak enough behind layer 4", x.strengthOf(0, 4), 4);
        Expect.same("too strong behind layer 5", x.strengthOf(0, 5), 8);
        x.kindsOf(0, 0);
        Expect.same("and so for the power", x.power(0), 8);
        x.play(Setting.STRIKE, 0);
        x.kindsOf(0, 0);
        x.settle(1);
        Expect.same("and for a STRIKE", x.things(), 3);
        x = Setting.with(Setting.BELL, 0);
        Setting.lay(x, 1, Setting.CROWN, 0);
        Expect.text("and for a trigger", Setting.stack(x), "9!1");
    }

    /** Terms: "there are at most 10": the tenth thing has its effect, and the tenth place is changed by the first. */
    private static void testTenThingsInLayers() {
        LayeredTable x = Setting.fullTable(Setting.BANNER);
        Expect.same("nine BANNERs on the last thing", x.strengthOf(9, 5), 20);
        Expect.same("and its power", x.power(0), 20);
        x = new LayeredTable();
        for (int i = 0; i < 9; i++) {
            Setting.lay(x, 0, Setting.BEAST, 0);
        }
        Setting.lay(x, 0, Setting.BANNER, 0);
        Expect.text("the last thing on nine BEASTs", Setting.strengths(x, 5), "4 4 4 4 4 4 4 4 4 0");
        x = Setting.fullTable(Setting.MIRROR);
        Expect.same("nothing to double", x.strengthOf(9, 5), 2);
    }
}
