import java.util.ArrayList;
import java.util.List;

/**
 * The document's rules a second time, written from its words alone with objects and lists of the Java library, to
 * compare LayeredTable with. Every derived answer is found from the first things on; nothing is packed or reused.
 */
final class TableModel {
    static final int[] COST = {2, 3, 3, 3, 3, 2, 2, 4, 3, 2, 3, 3, 1, 1};

    static final class Thing {
        final int card;
        final int player;
        final Thing target;

        Thing(int card, int player, Thing target) {
            this.card = card;
            this.player = player;
            this.target = target;
        }
    }

    static final class Entry {
        final int card;
        final boolean trigger;
        final int player;
        final Object target;

        Entry(int card, boolean trigger, int player, Object target) {
            this.card = card;
            this.trigger = trigger;
            this.player = player;
            this.target = target;
        }
    }

    /** What a thing is behind some layers. */
    static final class Look {
        int controller;
        boolean a;
        boolean b;
        boolean c;
        int strength;

        Look copy() {
            Look look = new Look();
            look.controller = controller;
            look.a = a;
            look.b = b;
            look.c = c;
            look.strength = strength;
            return look;
        }

        int kinds() {
            return (a ? 1 : 0) + (b ? 2 : 0) + (c ? 4 : 0);
        }
    }

    final int[] coins = {6, 6, 6};
    final List<Thing> things = new ArrayList<>();
    /** The top is the first. */
    final List<Entry> stack = new ArrayList<>();
    final List<String> states = new ArrayList<>();
    int turn = 0;
    int acting = 0;
    int rounds = 0;
    int loops = 0;
    /** How many effects ago the state of the loop that was found last had stood. */
    int lastPeriod = 0;
    private int passed = 0;

    // ---- play

    int obstacle(int card, int target) {
        requireIndex(card, 14);
        if (card <= 11 && (turn != acting || !stack.isEmpty())) {
            return 1;
        }
        if (coins[acting] < COST[card]) {
            return 2;
        }
        boolean aimsAtThing = card == 7 || card == 12;
        if (aimsAtThing && !isIn(target, things.size())) {
            return 3;
        }
        if (card == 13 && (!isIn(target, stack.size()) || stack.get(target).trigger)) {
            return 3;
        }
        return stack.size() == 12 ? 4 : 0;
    }

    int play(int card, int target) {
        if (obstacle(card, target) != 0) {
            throw new IllegalStateException();
        }
        Object aim = null;
        if (card == 7 || card == 12) {
            aim = things.get(target);
        }
        if (card == 13) {
            aim = stack.get(target);
        }
        coins[acting] -= COST[card];
        stack.add(0, new Entry(card, false, acting, aim));
        states.clear();
        passed = 0;
        acting = (acting + 1) % 3;
        return stack.size();
    }

    int pass() {
        passed++;
        if (passed < 3) {
            acting = (acting + 1) % 3;
            return 0;
        }
        passed = 0;
        if (!stack.isEmpty()) {
            takeEffect();
            return 1;
        }
        turn = (turn + 1) % 3;
        acting = turn;
        rounds++;
        coins[turn] += 3;
        states.clear();
        trigger(null, 1);
        return 2;
    }

    int settle(int entries) {
        if (entries < 1 || entries > 60) {
            throw new IllegalArgumentException();
        }
        int count = 0;
        for (; count < entries && !stack.isEmpty(); count++) {
            takeEffect();
        }
        return count;
    }

    // ---- the table

    int coins(int player) {
        requireIndex(player, 3);
        return coins[player];
    }

    int cardOf(int place) {
        requireIndex(place, things.size());
        return things.get(place).card;
    }

    Look lookAt(int place, int layer) {
        requireIndex(place, things.size());
        if (layer < 0 || layer > 5) {
            throw new IllegalArgumentException();
        }
        return looks(layer).get(place);
    }

    int power(int player) {
        requireIndex(player, 3);
        int sum = 0;
        for (Look look : looks(5)) {
            if (look.controller == player && look.a) {
                sum += look.strength;
            }
        }
        return sum;
    }

    // ---- the stack

    Entry entry(int place) {
        requireIndex(place, stack.size());
        return stack.get(place);
    }

    int entryTarget(int place) {
        Entry entry = entry(place);
        if (entry.target == null) {
            return -1;
        }
        return entry.card == 13 ? stack.indexOf(entry.target) : things.indexOf(entry.target);
    }

    // ---- the rules

    private static boolean isIn(int index, int size) {
        return index >= 0 && index < size;
    }

    private static void requireIndex(int index, int size) {
        if (!isIn(index, size)) {
            throw new IndexOutOfBoundsException();
        }
    }

    private List<Look> looks(int layers) {
        List<Look> now = new ArrayList<>();
        for (Thing thing : things) {
            Look look = new Look();
            look.controller = thing.player;
            look.a = thing.card == 0;
            look.b = thing.card == 1;
            look.c = thing.card > 1;
            look.strength = thing.card == 0 ? 2 : thing.card == 1 ? 1 : 0;
            now.add(look);
        }
        for (int layer = 1; layer <= layers; layer++) {
            List<Look> before = new ArrayList<>();
            for (Look look : now) {
                before.add(look.copy());
            }
            for (int source = 0; source < things.size(); source++) {
                for (int place = 0; place < things.size(); place++) {
                    change(layer, source, things.get(place), before, before.get(place), now.get(place));
                }
            }
        }
        return now;
    }

    private void change(int layer, int source, Thing thing, List<Look> before, Look was, Look is) {
        Thing cause = things.get(source);
        if (layer == 1 && cause.card == 7 && cause.target == thing) {
            is.controller = cause.player;
        }
        if (layer == 2 && cause.card == 5 && was.b) {
            is.a = true;
        }
        if (layer == 2 && cause.card == 6 && was.a) {
            is.a = false;
            is.b = true;
        }
        if (layer == 3 && cause.card == 3 && was.a) {
            is.strength = 1;
        }
        if (layer == 3 && cause.card == 4 && was.a) {
            is.strength = 4;
        }
        if (layer == 4 && cause.card == 2 && was.a && was.controller == before.get(source).controller) {
            is.strength += 2;
        }
        if (layer == 5 && cause.card == 8 && was.a && was.strength >= 3) {
            is.strength += is.strength;
        }
    }

    private void takeEffect() {
        Entry top = stack.remove(0);
        if (top.trigger) {
            takeTriggerEffect(top);
        } else if (top.card <= 11) {
            enter(new Thing(top.card, top.player, (Thing) top.target));
        } else if (top.card == 12) {
            int place = things.indexOf(top.target);
            if (place >= 0 && looks(5).get(place).strength <= 4) {
                leave(place);
            }
        } else {
            stack.remove(top.target);
        }
        acting = turn;
        passed = 0;
        remember();
    }

    private void takeTriggerEffect(Entry top) {
        if (top.card == 1) {
            coins[top.player] += 2;
        }
        if (top.card == 9) {
            coins[top.player] += 1;
        }
        if (top.card == 10) {
            enter(new Thing(0, top.player, null));
        }
        if (top.card == 11) {
            for (int place = 0; place < things.size(); place++) {
                if (things.get(place).card == 0) {
                    leave(place);
                    return;
                }
            }
        }
    }

    private void enter(Thing thing) {
        if (things.size() < 10) {
            things.add(thing);
            trigger(thing, 9, 11);
        }
    }

    private void leave(int place) {
        things.remove(place);
        trigger(null, 10);
    }

    private void trigger(Thing entered, int... cards) {
        List<Look> looks = looks(5);
        for (int player = turn; player < turn + 3; player++) {
            for (int place = 0; place < things.size(); place++) {
                Thing thing = things.get(place);
                boolean has = false;
                for (int card : cards) {
                    has |= thing.card == card;
                }
                boolean mayBe = thing != entered && (thing.card != 1 || player == turn);
                if (has && mayBe && looks.get(place).controller == player % 3 && stack.size() < 12) {
                    stack.add(0, new Entry(thing.card, true, player % 3, null));
                }
            }
        }
    }

    private void remember() {
        String state = state();
        int known = states.indexOf(state);
        if (known >= 0) {
            lastPeriod = states.size() - known;
            loops++;
            stack.clear();
            states.clear();
            return;
        }
        states.add(state);
        if (states.size() > 40) {
            states.remove(0);
        }
    }

    String state() {
        StringBuilder text = new StringBuilder();
        for (Thing thing : things) {
            text.append(thing.card).append('/').append(thing.player);
            if (thing.card == 7) {
                text.append('>').append(things.indexOf(thing.target));
            }
            text.append(' ');
        }
        text.append('|');
        for (int place = 0; place < stack.size(); place++) {
            Entry entry = stack.get(place);
            text.append(entry.card).append(entry.trigger ? '!' : '.').append(entry.player);
            text.append('>').append(entryTarget(place)).append(' ');
        }
        return text.toString();
    }
}
