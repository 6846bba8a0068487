import java.util.Random;

/** Promises 1 to 21: random runs of 512 calls, each answer and each state compared with TableModel. */
final class ModelTest {
    private static final int RUNS = 500;
    private static final int CALLS = 512;
    private static final int[] ODD = {Integer.MIN_VALUE, -2, -1, 0, 1, 5, 6, 9, 10, 11, 12, 13, 14, 60, 61,
        Integer.MAX_VALUE};

    private final Random random;
    private final LayeredTable table = new LayeredTable();
    private final TableModel model = new TableModel();
    private final int[] liked;
    private final String name;

    private ModelTest(int seed) {
        random = new Random(seed);
        name = "run " + seed;
        liked = new int[1 + random.nextInt(6)];
        for (int i = 0; i < liked.length; i++) {
            liked[i] = random.nextInt(14);
        }
        if (seed % 3 == 0) {
            liked[0] = 10;
        }
        if (seed % 3 == 0 && liked.length > 1) {
            liked[1] = 11;
        }
    }

    public static void main(String[] args) {
        for (int seed = 0; seed < RUNS; seed++) {
            new ModelTest(seed).run();
        }
        Expect.finish();
    }

    private void run() {
        for (int call = 0; call < CALLS; call++) {
            String what = name + ", call " + call + ": ";
            step(what);
            compareState(what);
        }
    }

    private void step(String what) {
        switch (random.nextInt(10)) {
            case 0:
                int entries = random.nextInt(4) == 0 ? odd() : 1 + random.nextInt(60);
                Expect.text(what + "settle(" + entries + ")", Expect.answer(() -> table.settle(entries)),
                    Expect.answer(() -> model.settle(entries)));
                break;
            case 1:
                ask(what);
                break;
            case 2:
            case 3:
            case 4:
            case 5:
                int card = random.nextInt(20) == 0 ? odd() : random.nextInt(4) == 0 ? random.nextInt(14) : aLikedOne();
                int target = random.nextInt(20) == 0 ? odd() : random.nextInt(11);
                Expect.text(what + "play(" + card + ", " + target + ")",
                    Expect.answer(() -> table.play(card, target)), Expect.answer(() -> model.play(card, target)));
                break;
            default:
                Expect.text(what + "pass()", Expect.answer(() -> table.pass()), Expect.answer(() -> model.pass()));
                break;
        }
    }

    private int odd() {
        return ODD[random.nextInt(ODD.length)];
    }

    private int aLikedOne() {
        return liked[random.nextInt(liked.length)];
    }

    private void ask(String what) {
        int card = random.nextBoolean() ? odd() : random.nextInt(14);
        int place = random.nextBoolean() ? odd() : random.nextInt(12);
        int layer = random.nextBoolean() ? odd() : random.nextInt(6);
        String at = what + "(" + card + " " + place + " " + layer + ") ";
        Expect.text(at + "obstacle", Expect.answer(() -> table.obstacle(card, place)),
            Expect.answer(() -> model.obstacle(card, place)));
        Expect.text(at + "coins", Expect.answer(() -> table.coins(place)), Expect.answer(() -> model.coins(place)));
        Expect.text(at + "power", Expect.answer(() -> table.power(place)), Expect.answer(() -> model.power(place)));
        Expect.text(at + "cardOf", Expect.answer(() -> table.cardOf(place)), Expect.answer(() -> model.cardOf(place)));
        compareLooks(at, place, layer);
        compareEntry(at, place);
    }

    private void compareLooks(String at, int place, int layer) {
        Expect.text(at + "controllerOf", Expect.answer(() -> table.controllerOf(place, layer)),
            Expect.answer(() -> model.lookAt(place, layer).controller));
        Expect.text(at + "kindsOf", Expect.answer(() -> table.kindsOf(place, layer)),
            Expect.answer(() -> model.lookAt(place, layer).kinds()));
        Expect.text(at + "strengthOf", Expect.answer(() -> table.strengthOf(place, layer)),
            Expect.answer(() -> model.lookAt(place, layer).strength));
    }

    private void compareEntry(String at, int place) {
        Expect.text(at + "entryCard", Expect.answer(() -> table.entryCard(place)),
            Expect.answer(() -> model.entry(place).card));
        Expect.text(at + "isTrigger", Expect.answer(() -> table.isTrigger(place) ? 1 : 0),
            Expect.answer(() -> model.entry(place).trigger ? 1 : 0));
        Expect.text(at + "entryPlayer", Expect.answer(() -> table.entryPlayer(place)),
            Expect.answer(() -> model.entry(place).player));
        Expect.text(at + "entryTarget", Expect.answer(() -> table.entryTarget(place)),
            Expect.answer(() -> model.entryTarget(place)));
    }

    private void compareState(String what) {
        Expect.same(what + "turn", table.turn(), model.turn);
        Expect.same(what + "acting", table.acting(), model.acting);
        Expect.same(what + "rounds", table.rounds(), model.rounds);
        Expect.same(what + "loops", table.loops(), model.loops);
        Expect.same(what + "things", table.things(), model.things.size());
        Expect.same(what + "stack", table.stack(), model.stack.size());
        for (int player = 0; player < 3; player++) {
            Expect.same(what + "coins " + player, table.coins(player), model.coins(player));
            Expect.same(what + "power " + player, table.power(player), model.power(player));
        }
        for (int place = 0; place < table.things(); place++) {
            Expect.same(what + "cardOf " + place, table.cardOf(place), model.cardOf(place));
            for (int layer = 0; layer <= 5; layer += 5) {
                compareLooks(what + "place " + place + " layer " + layer + " ", place, layer);
            }
        }
        for (int place = 0; place < table.stack(); place++) {
            compareEntry(what + "entry " + place + " ", place);
        }
    }
}
