import java.util.function.Consumer;
import java.util.function.Supplier;

/**
 * Two tables in the same state: one gets calls that must change nothing, and then both go on alike. This tells also
 * what no call answers at once: how many players have passed, and which states are remembered.
 */
final class Twins {
    private static final int PASSES = 9;

    private Twins() {
    }

    static void stayAlike(String what, Supplier<LayeredTable> maker, Consumer<LayeredTable> calls) {
        LayeredTable x = maker.get();
        LayeredTable twin = maker.get();
        calls.accept(x);
        for (int pass = 0; pass < PASSES; pass++) {
            Expect.text(what + ": the state behind " + pass + " passes", Setting.whole(x), Setting.whole(twin));
            Expect.same(what + ": the pass " + pass, x.pass(), twin.pass());
        }
    }

    /** An effect ahead of a loop, and a pass ahead of that effect. */
    static LayeredTable aheadOfLoop() {
        LayeredTable x = Setting.with(Setting.PYRE, 0, Setting.ALTAR, 1);
        Setting.reachTurn(x, 2, 2);
        x.play(Setting.BEAST, 0);
        x.settle(3);
        x.pass();
        x.pass();
        return x;
    }

    /** A pass ahead of a turn. */
    static LayeredTable aheadOfTurn() {
        LayeredTable x = Setting.with(Setting.TOWER, 1, Setting.CROWN, 2);
        Setting.reachTurn(x, 0, 0);
        x.pass();
        x.pass();
        return x;
    }

    /** A full stack, a pass ahead of an effect. */
    static LayeredTable aheadOfStrike() {
        LayeredTable x = Setting.withStrikes(12);
        x.pass();
        x.pass();
        return x;
    }

    static void stayAlike(String what, Consumer<LayeredTable> calls) {
        stayAlike(what + ", ahead of a loop", Twins::aheadOfLoop, calls);
        stayAlike(what + ", ahead of a turn", Twins::aheadOfTurn, calls);
        stayAlike(what + ", on a full stack", Twins::aheadOfStrike, calls);
    }
}
