/**
 * A table game of cards that change the rules for other cards.
 *
 * <p>../shared/DOC.md tells the rules; every row is made once, in the constructor, and used again.
 */
public final class LayeredTable {
    public static final int NONE = -1;
    public static final int PASSED = 0, RESOLVED = 1, TURNED = 2;
    public static final int PLAYABLE = 0, NOT_NOW = 1, TOO_DEAR = 2, NO_TARGET = 3, STACK_FULL = 4;

    private static final int BEAST = 0, TOWER = 1, BANNER = 2, FOG = 3, TIDE = 4, MASK = 5, VEIL = 6;
    private static final int CROWN = 7, MIRROR = 8, BELL = 9, PYRE = 10, ALTAR = 11;
    private static final int STRIKE = 12, DENY = 13;
    private static final int CARDS = 14;

    private static final int KIND_A = 1, KIND_B = 2, KIND_C = 4;

    private static final int PLAYERS = 3;
    private static final int LAYERS = 5;
    private static final int MOST_THINGS = 10;
    private static final int MOST_ENTRIES = 12;
    private static final int MOST_STATES = 40;
    private static final int MOST_SETTLED = 60;
    private static final int FIRST_COINS = 6;
    private static final int TURN_COINS = 3;
    private static final int TOWER_COINS = 2;
    private static final int BELL_COINS = 1;
    private static final int STRIKE_LIMIT = 4;
    private static final int MIRROR_LIMIT = 3;

    /** What has happened to the table, for the triggers. */
    private static final int NOTHING = 0, ENTERED = 1, LEFT = 2, TURN_BEGAN = 3;

    private static final int[] COST_OF = {2, 3, 3, 3, 3, 2, 2, 4, 3, 2, 3, 3, 1, 1};
    /** The layer in which a card has its effect; 0 for none. */
    private static final int[] LAYER_OF = {0, 0, 4, 3, 3, 2, 2, 1, 5, 0, 0, 0, 0, 0};

    private final int[] purses;
    private final Things table;
    private final Entries pile;
    private final View view;
    private final Memory memory;
    private int turnPlayer;
    private int actingPlayer;
    private int passes;
    private int roundCount;
    private int loopCount;
    private int nextId;

    public LayeredTable() {
        purses = new int[PLAYERS];
        for (int player = 0; player < PLAYERS; player++) {
            purses[player] = FIRST_COINS;
        }
        table = new Things();
        pile = new Entries();
        view = new View();
        memory = new Memory();
    }

    // ---- play

    public int play(int card, int target) throws IndexOutOfBoundsException, IllegalStateException {
        if (card < 0 || card >= CARDS) {
            throw new IndexOutOfBoundsException("no such card");
        }
        if (findObstacle(card, target) != PLAYABLE) {
            throw new IllegalStateException("the card cannot be played");
        }
        pay(actingPlayer, -costOf(card));
        pile.push(card, false, actingPlayer, targetId(card, target), newId());
        memory.forget();
        passes = 0;
        actingPlayer = nextPlayer(actingPlayer);
        return pile.size;
    }

    public int obstacle(int card, int target) throws IndexOutOfBoundsException {
        if (card < 0 || card >= CARDS) {
            throw new IndexOutOfBoundsException("no such card");
        }
        return findObstacle(card, target);
    }

    public int pass() {
        passes++;
        if (passes < PLAYERS) {
            actingPlayer = nextPlayer(actingPlayer);
            return PASSED;
        }
        if (pile.size > 0) {
            resolveTop();
            return RESOLVED;
        }
        beginTurn();
        return TURNED;
    }

    public int settle(int entries) throws IllegalArgumentException {
        if (entries < 1 || entries > MOST_SETTLED) {
            throw new IllegalArgumentException("entries is out of range");
        }
        int settled = 0;
        while (settled < entries && pile.size > 0) {
            resolveTop();
            settled++;
        }
        return settled;
    }

    // ---- the table

    public int turn() {
        return turnPlayer;
    }

    public int acting() {
        return actingPlayer;
    }

    public int rounds() {
        return roundCount;
    }

    public int loops() {
        return loopCount;
    }

    public int coins(int player) throws IndexOutOfBoundsException {
        if (player < 0 || player >= PLAYERS) {
            throw new IndexOutOfBoundsException("no such player");
        }
        return purses[player];
    }

    public int things() {
        return table.size;
    }

    public int cardOf(int place) throws IndexOutOfBoundsException {
        if (!table.has(place)) {
            throw new IndexOutOfBoundsException("no such thing");
        }
        return table.cards[place];
    }

    public int controllerOf(int place, int layer) throws IndexOutOfBoundsException, IllegalArgumentException {
        requireThingAndLayer(place, layer);
        view.find(table, layer);
        return view.controllers[place];
    }

    public int kindsOf(int place, int layer) throws IndexOutOfBoundsException, IllegalArgumentException {
        requireThingAndLayer(place, layer);
        view.find(table, layer);
        return view.kinds[place];
    }

    public int strengthOf(int place, int layer) throws IndexOutOfBoundsException, IllegalArgumentException {
        requireThingAndLayer(place, layer);
        view.find(table, layer);
        return view.strengths[place];
    }

    public int power(int player) throws IndexOutOfBoundsException {
        if (player < 0 || player >= PLAYERS) {
            throw new IndexOutOfBoundsException("no such player");
        }
        view.find(table, LAYERS);
        int sum = 0;
        for (int place = 0; place < table.size; place++) {
            if (view.controllers[place] == player && (view.kinds[place] & KIND_A) != 0) {
                sum += view.strengths[place];
            }
        }
        return sum;
    }

    // ---- the stack

    public int stack() {
        return pile.size;
    }

    public int entryCard(int place) throws IndexOutOfBoundsException {
        if (!pile.has(place)) {
            throw new IndexOutOfBoundsException("no such entry");
        }
        return pile.cards[pile.indexOf(place)];
    }

    public boolean isTrigger(int place) throws IndexOutOfBoundsException {
        if (!pile.has(place)) {
            throw new IndexOutOfBoundsException("no such entry");
        }
        return pile.triggers[pile.indexOf(place)];
    }

    public int entryPlayer(int place) throws IndexOutOfBoundsException {
        if (!pile.has(place)) {
            throw new IndexOutOfBoundsException("no such entry");
        }
        return pile.players[pile.indexOf(place)];
    }

    public int entryTarget(int place) throws IndexOutOfBoundsException {
        if (!pile.has(place)) {
            throw new IndexOutOfBoundsException("no such entry");
        }
        return targetPlace(pile.indexOf(place));
    }

    // ---- what the calls share

    private void requireThingAndLayer(int place, int layer) {
        if (!table.has(place)) {
            throw new IndexOutOfBoundsException("no such thing");
        }
        if (layer < 0 || layer > LAYERS) {
            throw new IllegalArgumentException("layer is out of range");
        }
    }

    private static int nextPlayer(int player) {
        return player + 1 < PLAYERS ? player + 1 : 0;
    }

    private static int costOf(int card) {
        return card >= 0 && card < CARDS ? COST_OF[card] : 0;
    }

    private static int layerOf(int card) {
        return card >= 0 && card < CARDS ? LAYER_OF[card] : 0;
    }

    private static boolean isThing(int card) {
        return card < STRIKE;
    }

    /** Things and entries share one row of numbers, so that a target is never mistaken for a later one. */
    private int newId() {
        int id = nextId;
        nextId++;
        return id;
    }

    private int coinsOf(int player) {
        return player >= 0 && player < PLAYERS ? purses[player] : 0;
    }

    private void pay(int player, int amount) {
        if (player >= 0 && player < PLAYERS) {
            purses[player] += amount;
        }
    }

    private int findObstacle(int card, int target) {
        if (isThing(card) && (pile.size > 0 || actingPlayer != turnPlayer)) {
            return NOT_NOW;
        }
        if (coinsOf(actingPlayer) < costOf(card)) {
            return TOO_DEAR;
        }
        if (!hasTarget(card, target)) {
            return NO_TARGET;
        }
        return pile.size >= MOST_ENTRIES ? STACK_FULL : PLAYABLE;
    }

    private boolean hasTarget(int card, int target) {
        if (card == CROWN || card == STRIKE) {
            return table.has(target);
        }
        if (card == DENY) {
            return pile.has(target) && !pile.triggers[pile.indexOf(target)];
        }
        return true;
    }

    /** The number of what a card to be played has at the target's place. */
    private int targetId(int card, int target) {
        if ((card == CROWN || card == STRIKE) && table.has(target)) {
            return table.ids[target];
        }
        if (card == DENY && pile.has(target)) {
            return pile.ids[pile.indexOf(target)];
        }
        return NONE;
    }

    /** Where the target of the entry at this index is by now. */
    private int targetPlace(int index) {
        if (index < 0 || index >= pile.size) {
            return NONE;
        }
        int target = pile.targets[index];
        return pile.cards[index] == DENY ? pile.placeOf(target) : table.placeOf(target);
    }

    private void beginTurn() {
        turnPlayer = nextPlayer(turnPlayer);
        actingPlayer = turnPlayer;
        passes = 0;
        roundCount++;
        memory.forget();
        pay(turnPlayer, TURN_COINS);
        raiseTriggers(TURN_BEGAN);
    }

    /** The top is taken from the stack first, so that its own triggers find its room. */
    private void resolveTop() {
        int top = pile.size - 1;
        if (top < 0) {
            return;
        }
        int card = pile.cards[top];
        boolean trigger = pile.triggers[top];
        int player = pile.players[top];
        int target = pile.targets[top];
        pile.remove(top);
        raiseTriggers(trigger ? triggerEffect(card, player) : cardEffect(card, player, target));
        breakLoop();
        passes = 0;
        actingPlayer = turnPlayer;
    }

    private int cardEffect(int card, int player, int target) {
        if (isThing(card)) {
            return enter(card, player, target);
        }
        if (card == STRIKE) {
            return strike(table.placeOf(target));
        }
        pile.remove(pile.indexOf(pile.placeOf(target)));
        return NOTHING;
    }

    private int triggerEffect(int card, int player) {
        switch (card) {
            case TOWER:
                pay(player, TOWER_COINS);
                return NOTHING;
            case BELL:
                pay(player, BELL_COINS);
                return NOTHING;
            case PYRE:
                return enter(BEAST, player, NONE);
            case ALTAR:
                return leave(table.firstOf(BEAST));
            default:
                return NOTHING;
        }
    }

    private int strike(int place) {
        if (!table.has(place)) {
            return NOTHING;
        }
        view.find(table, LAYERS);
        return view.strengths[place] <= STRIKE_LIMIT ? leave(place) : NOTHING;
    }

    private int enter(int card, int player, int target) {
        return table.add(card, player, target, newId()) ? ENTERED : NOTHING;
    }

    private int leave(int place) {
        return table.remove(place) ? LEFT : NOTHING;
    }

    private void raiseTriggers(int event) {
        if (event == NOTHING) {
            return;
        }
        view.find(table, LAYERS);
        // What has just entered lies last and does not see itself enter.
        int watchers = event == ENTERED ? table.size - 1 : table.size;
        int player = turnPlayer;
        for (int step = 0; step < PLAYERS; step++) {
            for (int place = 0; place < watchers; place++) {
                int card = table.cards[place];
                if (view.controllers[place] == player && hasTrigger(card, event, player)) {
                    pile.push(card, true, player, NONE, newId());
                }
            }
            player = nextPlayer(player);
        }
    }

    private boolean hasTrigger(int card, int event, int controller) {
        switch (event) {
            case ENTERED:
                return card == BELL || card == ALTAR;
            case LEFT:
                return card == PYRE;
            case TURN_BEGAN:
                return card == TOWER && controller == turnPlayer;
            default:
                return false;
        }
    }

    private void breakLoop() {
        memory.start(table.size, pile.size);
        for (int place = 0; place < table.size; place++) {
            memory.write(table.cards[place], false, table.players[place], table.placeOf(table.targets[place]));
        }
        for (int index = 0; index < pile.size; index++) {
            memory.write(pile.cards[index], pile.triggers[index], pile.players[index], targetPlace(index));
        }
        if (memory.knowsState()) {
            loopCount++;
            pile.size = 0;
            memory.forget();
        } else {
            memory.keepState();
        }
    }

    /** The things on the table, in the order in which they entered it. */
    private static final class Things {
        final int[] cards = new int[MOST_THINGS];
        final int[] players = new int[MOST_THINGS];
        /** The number of a crown's target; NONE for other cards. */
        final int[] targets = new int[MOST_THINGS];
        final int[] ids = new int[MOST_THINGS];
        int size;

        boolean has(int place) {
            return place >= 0 && place < size;
        }

        boolean add(int card, int player, int target, int id) {
            if (size >= MOST_THINGS) {
                return false;
            }
            cards[size] = card;
            players[size] = player;
            targets[size] = target;
            ids[size] = id;
            size++;
            return true;
        }

        boolean remove(int place) {
            if (!has(place)) {
                return false;
            }
            size--;
            for (int to = place; to < size; to++) {
                cards[to] = cards[to + 1];
                players[to] = players[to + 1];
                targets[to] = targets[to + 1];
                ids[to] = ids[to + 1];
            }
            return true;
        }

        int placeOf(int id) {
            for (int place = 0; place < size; place++) {
                if (ids[place] == id) {
                    return place;
                }
            }
            return NONE;
        }

        int firstOf(int card) {
            for (int place = 0; place < size; place++) {
                if (cards[place] == card) {
                    return place;
                }
            }
            return NONE;
        }
    }

    /** The stack; the rows begin at its bottom, the places at its top. */
    private static final class Entries {
        final int[] cards = new int[MOST_ENTRIES];
        final boolean[] triggers = new boolean[MOST_ENTRIES];
        final int[] players = new int[MOST_ENTRIES];
        /** The number of the target, a thing's or an entry's; NONE if the card has none. */
        final int[] targets = new int[MOST_ENTRIES];
        final int[] ids = new int[MOST_ENTRIES];
        int size;

        boolean has(int place) {
            return place >= 0 && place < size;
        }

        /** The index of a place, or NONE. */
        int indexOf(int place) {
            return has(place) ? size - 1 - place : NONE;
        }

        /** What finds no room is lost. */
        void push(int card, boolean trigger, int player, int target, int id) {
            if (size >= MOST_ENTRIES) {
                return;
            }
            cards[size] = card;
            triggers[size] = trigger;
            players[size] = player;
            targets[size] = target;
            ids[size] = id;
            size++;
        }

        void remove(int index) {
            if (index < 0 || index >= size) {
                return;
            }
            size--;
            for (int to = index; to < size; to++) {
                cards[to] = cards[to + 1];
                triggers[to] = triggers[to + 1];
                players[to] = players[to + 1];
                targets[to] = targets[to + 1];
                ids[to] = ids[to + 1];
            }
        }

        int placeOf(int id) {
            for (int index = 0; index < size; index++) {
                if (ids[index] == id) {
                    return size - 1 - index;
                }
            }
            return NONE;
        }
    }

    /** What the things are behind some layers, found anew each time. */
    private static final class View {
        final int[] controllers = new int[MOST_THINGS];
        final int[] kinds = new int[MOST_THINGS];
        final int[] strengths = new int[MOST_THINGS];
        /** As it was at the beginning of a layer: by this a thing is taken or not. */
        private final int[] kindsBefore = new int[MOST_THINGS];
        private final int[] strengthsBefore = new int[MOST_THINGS];

        void find(Things table, int layers) {
            for (int place = 0; place < table.size; place++) {
                int card = table.cards[place];
                controllers[place] = table.players[place];
                kinds[place] = card == BEAST ? KIND_A : card == TOWER ? KIND_B : KIND_C;
                strengths[place] = card == BEAST ? 2 : card == TOWER ? 1 : 0;
            }
            for (int layer = 1; layer <= layers; layer++) {
                goThrough(table, layer);
            }
        }

        private void goThrough(Things table, int layer) {
            for (int place = 0; place < table.size; place++) {
                kindsBefore[place] = kinds[place];
                strengthsBefore[place] = strengths[place];
            }
            for (int source = 0; source < table.size; source++) {
                boolean works = layerOf(table.cards[source]) == layer;
                for (int place = 0; works && place < table.size; place++) {
                    if (takes(table, source, place)) {
                        change(table, source, place);
                    }
                }
            }
        }

        /** No layer changes a controller and asks for one, so controllers need no copy. */
        private boolean takes(Things table, int source, int place) {
            boolean isA = (kindsBefore[place] & KIND_A) != 0;
            switch (table.cards[source]) {
                case CROWN:
                    return table.ids[place] == table.targets[source];
                case MASK:
                    return (kindsBefore[place] & KIND_B) != 0;
                case BANNER:
                    return isA && controllers[place] == controllers[source];
                case MIRROR:
                    return isA && strengthsBefore[place] >= MIRROR_LIMIT;
                default:
                    return isA;
            }
        }

        private void change(Things table, int source, int place) {
            switch (table.cards[source]) {
                case CROWN:
                    controllers[place] = table.players[source];
                    break;
                case MASK:
                    kinds[place] |= KIND_A;
                    break;
                case VEIL:
                    kinds[place] = (kinds[place] & ~KIND_A) | KIND_B;
                    break;
                case FOG:
                    strengths[place] = 1;
                    break;
                case TIDE:
                    strengths[place] = 4;
                    break;
                case BANNER:
                    strengths[place] += 2;
                    break;
                case MIRROR:
                    strengths[place] *= 2;
                    break;
                default:
                    break;
            }
        }
    }

    /** The latest states behind an effect, each packed into one row, to find loops by. */
    private static final class Memory {
        private static final int WIDTH = 2 + MOST_THINGS + MOST_ENTRIES;

        private final int[] state = new int[WIDTH];
        private final int[][] kept = new int[MOST_STATES][WIDTH];
        private int length;
        private int size;
        private int next;

        void forget() {
            size = 0;
            next = 0;
        }

        void start(int things, int entries) {
            state[0] = things;
            state[1] = entries;
            length = 2;
        }

        void write(int card, boolean trigger, int player, int place) {
            if (length < WIDTH) {
                state[length] = (card << 16) | (trigger ? 1 << 12 : 0) | (player << 8) | (place + 1);
                length++;
            }
        }

        boolean knowsState() {
            for (int row = 0; row < size; row++) {
                if (isState(kept[row])) {
                    return true;
                }
            }
            return false;
        }

        private boolean isState(int[] row) {
            for (int i = 0; i < length; i++) {
                if (row[i] != state[i]) {
                    return false;
                }
            }
            return true;
        }

        /** The oldest row makes way for the new one. */
        void keepState() {
            System.arraycopy(state, 0, kept[next], 0, WIDTH);
            next = next + 1 < MOST_STATES ? next + 1 : 0;
            if (size < MOST_STATES) {
                size++;
            }
        }
    }
}
