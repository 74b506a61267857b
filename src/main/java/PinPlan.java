import java.util.Arrays;

/**
 * Key plan: locks, keys, doors and people as a text tells them, what is done with them, and what can be asked.
 *
 * A PATTERN is an int with six bits for each chamber (the first chamber's are the lowest): the set of depths that are
 * let through there. A LOCK is a pattern, and a BITTING is one with a single bit in each chamber, so that it OPENS the
 * LOCK if it has no bit that the LOCK lacks. A pattern of no bits stands for "no BITTING".
 */
public final class PinPlan {
    public static final int NONE = -1;

    private static final int LOST = -2;
    private static final int REFUSED = -3;
    private static final int NOTHING_THERE = -2;
    private static final int NOT_THE_SAME = -2;

    private static final int TAPE_BYTES = 1600;
    private static final int BYTES_A_FEED = 20;
    private static final int MOST_CHAMBERS = 5;
    private static final int MOST_DEPTHS = 6;
    private static final int MOST_STEP = 5;
    private static final int MOST_BITTINGS = 7776;
    private static final int MOST_KEYS = 8;
    private static final int MOST_LOCKS = 6;
    private static final int MOST_ROOMS = 6;
    private static final int MOST_DOORS = 8;
    private static final int MOST_PEOPLE = 4;
    private static final int LOCK_SETS = 64;
    private static final int BOXES = 3;
    private static final int BOOK_ENTRIES = 60;
    private static final int MOST_LASTING = 200;
    private static final int SEEDS = 1000;

    private final byte[] tape;
    private int taped;
    private final Reader reader;
    private final Layout layout;
    private final Space space;
    private final State state;
    private final State trial;
    private final History history;
    private final State[] boxes;
    private int filledBoxes;
    private final Survey pinned;
    private final Survey told;
    private final House house;
    private final Rules rules;
    private final Tries tries;
    private final int[] entries;

    public PinPlan() {
        tape = new byte[TAPE_BYTES];
        taped = 0;
        reader = new Reader(tape);
        layout = new Layout();
        space = layout.space;
        state = new State();
        trial = new State();
        history = new History();
        boxes = new State[BOXES];
        for (int i = 0; i < BOXES; i++) {
            boxes[i] = new State();
        }
        filledBoxes = 0;
        pinned = new Survey(layout);
        told = new Survey(layout);
        house = new House(layout, state);
        rules = new Rules(layout, state);
        tries = new Tries();
        entries = new int[BOOK_ENTRIES];
    }

    // ---- the text

    public int feed(int a, int b, int c, int d, int e) {
        if (taped + BYTES_A_FEED > TAPE_BYTES) {
            return NONE;
        }
        putOnTape(a);
        putOnTape(b);
        putOnTape(c);
        putOnTape(d);
        putOnTape(e);
        return taped;
    }

    private void putOnTape(int four) {
        for (int shift = 24; shift >= 0; shift -= 8) {
            if (taped >= 0 && taped < TAPE_BYTES) {
                tape[taped] = (byte) (four >> shift);
                taped++;
            }
        }
    }

    public int end(int n) {
        if (n < 0 || n > taped) {
            return NONE;
        }
        taped = n;
        return n;
    }

    public int plan() {
        if (!reader.readAll(taped)) {
            return NONE;
        }
        layout.copyFrom(reader.draft);
        state.copyFrom(layout.toldState);
        history.forget();
        tries.forget();
        house.forgetPath();
        filledBoxes = 0;
        taped = 0;
        return layout.keys;
    }

    public int fault(int what) {
        switch (what) {
            case 0:
                return reader.faultKind;
            case 1:
                return reader.faultPlace;
            default:
                return NONE;
        }
    }

    // ---- what is now

    public int key(int key, int what) {
        if (!layout.hasKey(key)) {
            return REFUSED;
        }
        switch (what) {
            case 0:
                return space.numberOf(state.bits(key));
            case 1:
                return state.used(key);
            case 2:
                return state.holder(key);
            case 3:
                return house.locksFor(1 << key);
            default:
                return REFUSED;
        }
    }

    public int cut(int key, int chamber) {
        if (!layout.hasKey(key) || !space.hasChamber(chamber)) {
            return NONE;
        }
        return space.depthAt(state.bits(key), chamber);
    }

    public int lock(int lock, int what) {
        if (!layout.hasLock(lock)) {
            return NONE;
        }
        switch (what) {
            case 0:
                return Integer.bitCount(state.pins(lock));
            case 1:
                return house.keysFor(lock);
            case 2:
                return layout.mustOf(lock);
            case 3:
                return layout.neverOf(lock);
            default:
                return NONE;
        }
    }

    public int parts(int lock, int chamber) {
        if (!layout.hasLock(lock) || !space.hasChamber(chamber)) {
            return NONE;
        }
        return Space.depthsAt(state.pins(lock), chamber);
    }

    public int door(int door, int what) {
        if (!layout.hasDoor(door)) {
            return NONE;
        }
        switch (what) {
            case 0:
                return layout.doorFrom(door);
            case 1:
                return layout.doorTo(door);
            case 2:
                return layout.doorLock(door);
            default:
                return NONE;
        }
    }

    public int person(int person, int what) {
        if (!layout.hasPerson(person)) {
            return NONE;
        }
        switch (what) {
            case 0:
                return state.room(person);
            case 1:
                return state.heldBy(person, layout.keys);
            case 2:
                return house.reachOf(person);
            default:
                return NONE;
        }
    }

    public int opens(int bitting, int lock) {
        int bits = space.bitsOf(bitting);
        if (bits == 0 || !layout.hasLock(lock)) {
            return NONE;
        }
        return Space.fitsIn(bits, state.pins(lock)) ? 1 : 0;
    }

    // ---- ACTS

    public int walk(int person, int door) {
        if (!layout.hasPerson(person) || !layout.hasDoor(door)) {
            return NONE;
        }
        int there = layout.otherSide(door, state.room(person));
        int able = house.keysFor(layout.doorLock(door)) & state.heldBy(person, layout.keys);
        if (there == NONE || able == 0) {
            return NONE;
        }
        history.keep(state);
        useOnce(state, Integer.numberOfTrailingZeros(able));
        state.putRoom(person, there);
        return there;
    }

    /** A USE: the SEED goes on, and a chamber of the KEY may wear. */
    private void useOnce(State on, int key) {
        int seed = (on.seed() * 137 + 71) % SEEDS;
        on.putSeed(seed);
        int bits = on.bits(key);
        int chamber = seed % Math.max(1, space.chambers);
        int wear = layout.formula.value(space.depthAt(bits, chamber), space.besideOf(bits, chamber),
                on.used(key), chamber);
        if (seed / 10 < wear) {
            int worn = space.deeper(bits, chamber);
            if (worn != 0) {
                on.putBits(key, worn);
            }
        }
        on.putUsed(key, on.used(key) + 1);
    }

    public int give(int key, int person) {
        if (!layout.hasKey(key) || !layout.hasPerson(person)) {
            return REFUSED;
        }
        int holder = state.holder(key);
        if (holder == person || holder == LOST) {
            return REFUSED;
        }
        if (holder != NONE && state.room(holder) != state.room(person)) {
            return REFUSED;
        }
        return handOver(key, person);
    }

    public int hang(int key) {
        if (!layout.hasKey(key) || state.holder(key) < 0) {
            return REFUSED;
        }
        return handOver(key, NONE);
    }

    public int lose(int key) {
        if (!layout.hasKey(key) || state.holder(key) == LOST) {
            return REFUSED;
        }
        return handOver(key, LOST);
    }

    public int find(int key, int person) {
        if (!layout.hasKey(key) || !layout.hasPerson(person) || state.holder(key) != LOST) {
            return NONE;
        }
        handOver(key, person);
        return Integer.bitCount(state.heldBy(person, layout.keys));
    }

    /** The ACT by which a KEY comes from one to another: who had it. */
    private int handOver(int key, int to) {
        int from = state.holder(key);
        history.keep(state);
        state.putHolder(key, to);
        return from;
    }

    public int file(int key, int chamber) {
        if (!layout.hasKey(key) || !space.hasChamber(chamber)) {
            return NONE;
        }
        int filed = space.deeper(state.bits(key), chamber);
        if (filed == 0) {
            return NONE;
        }
        history.keep(state);
        state.putBits(key, filed);
        return space.depthAt(filed, chamber);
    }

    public int recut(int key, int bitting) {
        int bits = space.bitsOf(bitting);
        if (!layout.hasKey(key) || bits == 0) {
            return NONE;
        }
        int before = space.numberOf(state.bits(key));
        history.keep(state);
        state.putBits(key, bits);
        state.putUsed(key, 0);
        return before;
    }

    public int pin(int lock, int keys) {
        if (!layout.hasLock(lock) || keys <= 0 || !layout.hasKeys(keys)) {
            return NONE;
        }
        history.keep(state);
        state.putPins(lock, rules.pinsFor(keys));
        return Integer.bitCount(state.pins(lock));
    }

    public int part(int lock, int chamber, int depth) {
        if (!layout.hasLock(lock) || !space.hasChamber(chamber) || !space.hasDepth(depth)) {
            return NONE;
        }
        int after = state.pins(lock) ^ Space.notch(chamber, depth);
        int left = Space.depthsAt(after, chamber);
        if (left == 0) {
            return NONE;
        }
        history.keep(state);
        state.putPins(lock, after);
        return left;
    }

    public boolean undo() {
        return history.goBack(state);
    }

    public boolean redo() {
        return history.goOn(state);
    }

    // ---- keys that could be cut

    public int legal() {
        return space.howMany(space.everything(), space.step);
    }

    public int bitting(int i) {
        return space.numberOf(space.nth(space.everything(), i));
    }

    public int rank(int bitting) {
        int bits = space.bitsOf(bitting);
        return bits == 0 ? NONE : space.placeOf(bits);
    }

    public int ghosts(int lock) {
        if (!layout.hasLock(lock)) {
            return NONE;
        }
        int pins = state.pins(lock);
        return space.howMany(pins, space.step) - cutAhead(pins, MOST_BITTINGS);
    }

    /** How many BITTINGS below a NUMBER fit into a pattern and are had by KEYS (one had by several counts once). */
    private int cutAhead(int pattern, int number) {
        int found = 0;
        for (int k = 0; k < layout.keys; k++) {
            int bits = state.bits(k);
            boolean counts = Space.fitsIn(bits, pattern) && space.numberOf(bits) < number;
            if (counts && state.firstWith(bits, layout.keys) == k) {
                found++;
            }
        }
        return found;
    }

    public int ghost(int lock, int i) {
        if (!layout.hasLock(lock) || i < 0 || i >= MOST_BITTINGS) {
            return NONE;
        }
        int pins = state.pins(lock);
        // each KEY that opens moves the i-th GHOST one place on among all that open
        for (int place = i; place <= i + MOST_KEYS; place++) {
            int bits = space.nth(pins, place);
            if (bits == 0) {
                return NONE;
            }
            int number = space.numberOf(bits);
            if (state.firstWith(bits, layout.keys) == NONE && place - cutAhead(pins, number) == i) {
                return number;
            }
        }
        return NONE;
    }

    public int common(int locks, int what) {
        if (!layout.hasLocks(locks)) {
            return NONE;
        }
        pinned.take(state);
        switch (what) {
            case 0:
                return pinned.total(locks, 0);
            case 1:
                return pinned.leastNumber(locks, 0);
            default:
                return NONE;
        }
    }

    public int master(int what) {
        pinned.take(state);
        int locks = pinned.masterLocks();
        switch (what) {
            case 0:
                return pinned.leastNumber(locks, 0);
            case 1:
                return Integer.bitCount(locks);
            case 2:
                return locks;
            default:
                return NONE;
        }
    }

    public int cutFor(int open, int shut) {
        if (!layout.hasLocks(open) || !layout.hasLocks(shut)) {
            return NONE;
        }
        pinned.take(state);
        return pinned.leastNumber(open, shut);
    }

    public int filing(int key, int lock, int what) {
        if (!layout.hasKey(key) || !layout.hasLock(lock)) {
            return NONE;
        }
        int bits = state.bits(key);
        int filed = space.shallowest(state.pins(lock) & space.fromDepthsOf(bits));
        if (filed == 0) {
            return NONE;
        }
        switch (what) {
            case 0:
                return space.apart(bits, filed);
            case 1:
                return space.numberOf(filed);
            default:
                return NONE;
        }
    }

    // ---- where the plan is kept

    public int broken(int what) {
        return rules.tellPairs(what, false);
    }

    public int strays(int what) {
        return rules.tellPairs(what, true);
    }

    public int keeps(int key) {
        return layout.hasKey(key) ? space.numberOf(rules.keepingCut(key)) : NONE;
    }

    public int leftOver(int key) {
        return layout.hasKey(key) ? rules.stillOpened(key) : NONE;
    }

    // ---- where one can come

    public int route(int person, int room) {
        house.forgetPath();
        if (!layout.hasPerson(person) || !layout.hasRoom(room)) {
            return NONE;
        }
        return house.findPath(person, room);
    }

    public int bunch(int from, int to, int what) {
        if (!layout.hasRoom(from) || !layout.hasRoom(to)) {
            return NONE;
        }
        int keys = house.fewestKeys(from, to);
        if (keys == NONE) {
            return NONE;
        }
        switch (what) {
            case 0:
                return Integer.bitCount(keys);
            case 1:
                return keys;
            default:
                return NONE;
        }
    }

    public int together(int person) {
        return layout.hasPerson(person) ? house.sharedReach(person) : NONE;
    }

    public int comers(int room) {
        if (!layout.hasRoom(room)) {
            return NONE;
        }
        int people = 0;
        for (int p = 0; p < layout.people; p++) {
            if ((house.reachOf(p) >> room & 1) != 0) {
                people |= 1 << p;
            }
        }
        return people;
    }

    public int trade(int person, int other, int what) {
        if (!layout.hasPerson(person) || !layout.hasPerson(other) || person == other || what < 0 || what > 1) {
            return NONE;
        }
        int pair = house.exchange(person, other);
        if (pair == NONE) {
            return NONE;
        }
        return what == 0 ? pair / MOST_KEYS : pair % MOST_KEYS;
    }

    // ---- keys beside keys

    public int span(int key, int other) {
        if (!layout.hasKey(key) || !layout.hasKey(other)) {
            return NONE;
        }
        return space.apart(state.bits(key), state.bits(other));
    }

    public int twin(int key) {
        if (!layout.hasKey(key)) {
            return NONE;
        }
        int nearest = NONE;
        int least = 0;
        for (int k = 0; k < layout.keys; k++) {
            int apart = space.apart(state.bits(key), state.bits(k));
            if (k != key && (nearest == NONE || apart < least)) {
                nearest = k;
                least = apart;
            }
        }
        return nearest;
    }

    public int book(int n) {
        if (n < 0 || n >= BOOK_ENTRIES) {
            return NONE;
        }
        int written = 0;
        int bits = space.least();
        for (int i = 0; i < MOST_BITTINGS && bits != 0 && written <= n; i++) {
            if (differsFromAll(bits, written)) {
                entries[written] = bits;
                written++;
            }
            bits = space.after(bits);
        }
        return written > n ? space.numberOf(entries[n]) : NONE;
    }

    private boolean differsFromAll(int bits, int written) {
        for (int i = 0; i < written && i < BOOK_ENTRIES; i++) {
            if (Integer.bitCount(bits & entries[i]) > space.chambers - 2) {
                return false;
            }
        }
        return true;
    }

    public int lasts(int key, int lock) {
        if (!layout.hasKey(key) || !layout.hasLock(lock)) {
            return NONE;
        }
        trial.copyFrom(state);
        for (int uses = 0; uses <= MOST_LASTING; uses++) {
            if (!Space.fitsIn(trial.bits(key), trial.pins(lock))) {
                return uses;
            }
            useOnce(trial, key);
        }
        return NONE;
    }

    // ---- what strikes one

    public int blanks() {
        pinned.take(state);
        return pinned.total(0, layout.allLocks());
    }

    public int stuck() {
        int present = layout.allKeys() & ~state.heldBy(LOST, layout.keys);
        return layout.allLocks() & ~house.locksFor(present);
    }

    public int barred() {
        int rooms = layout.allRooms();
        for (int p = 0; p < layout.people; p++) {
            rooms &= ~house.reachOf(p);
        }
        return rooms;
    }

    public int haunted() {
        int worst = NONE;
        int most = 0;
        for (int l = 0; l < layout.locks; l++) {
            int count = ghosts(l);
            if (worst == NONE || count > most) {
                worst = l;
                most = count;
            }
        }
        return worst;
    }

    public int best() {
        int first = NONE;
        int most = 0;
        for (int k = 0; k < layout.keys; k++) {
            int count = Integer.bitCount(house.locksFor(1 << k));
            if (first == NONE || count > most) {
                first = k;
                most = count;
            }
        }
        return first;
    }

    public int idle(int what) {
        switch (what) {
            case 0:
                return state.heldBy(NONE, layout.keys);
            case 1:
                return state.heldBy(LOST, layout.keys);
            default:
                return NONE;
        }
    }

    public int law(int n) {
        return n < 0 || n > MOST_STEP ? NONE : space.howMany(space.everything(), n);
    }

    public int odds(int lock, int part) {
        if (!layout.hasLock(lock) || part < 0 || part > 1) {
            return NONE;
        }
        int good = space.howMany(state.pins(lock), space.step);
        int all = space.howMany(space.everything(), space.step);
        int divisor = Math.max(1, commonDivisor(good, all));
        return (part == 0 ? good : all) / divisor;
    }

    private static int commonDivisor(int a, int b) {
        int high = a;
        int low = b;
        for (int i = 0; i < 64 && low != 0; i++) {
            int rest = high % low;
            high = low;
            low = rest;
        }
        return high;
    }

    public int lies(int i) {
        return house.pathDoor(i);
    }

    // ---- what somebody's key is

    public int tried(int lock, boolean is) {
        return layout.hasLock(lock) ? tries.tell(lock, is) : NONE;
    }

    public boolean untell(int tried) {
        return tries.takeBack(tried);
    }

    public int later(int by) {
        return tries.goOn(by);
    }

    public int fits(int k) {
        told.take(layout.toldState);
        return told.total(tries.knownAt(k, true), tries.knownAt(k, false));
    }

    public int sure(int chamber, int k) {
        if (!space.hasChamber(chamber) || fits(k) == 0) {
            return NONE;
        }
        int met = Space.depthsAt(told.depthsMet(tries.knownAt(k, true), tries.knownAt(k, false)), chamber);
        return Integer.bitCount(met) == 1 ? Integer.numberOfTrailingZeros(met) : NOT_THE_SAME;
    }

    public int ask(int what, int k) {
        if (what < 0 || what > 1) {
            return NONE;
        }
        int all = fits(k);
        if (all == 0) {
            return NONE;
        }
        int open = tries.knownAt(k, true);
        int shut = tries.knownAt(k, false);
        int chosen = NONE;
        int fewest = 0;
        for (int l = 0; l < layout.locks; l++) {
            int opened = told.total(open | 1 << l, shut);
            int left = Math.max(opened, all - opened);
            if (chosen == NONE || left < fewest) {
                chosen = l;
                fewest = left;
            }
        }
        return what == 0 || chosen == NONE ? chosen : fewest;
    }

    // ---- images

    public int image(int box) {
        if (box < 0 || box >= BOXES) {
            return NONE;
        }
        boxes[box].copyFrom(state);
        filledBoxes |= 1 << box;
        return Integer.bitCount(state.heldBy(LOST, layout.keys));
    }

    public int back(int box) {
        if (box < 0 || box >= BOXES || (filledBoxes >> box & 1) == 0) {
            return NONE;
        }
        state.copyFrom(boxes[box]);
        history.forget();
        return Integer.bitCount(state.heldBy(LOST, layout.keys));
    }

    public int about(int what) {
        switch (what) {
            case 0:
                return layout.keys;
            case 1:
                return layout.locks;
            case 2:
                return layout.rooms;
            case 3:
                return layout.doors;
            case 4:
                return layout.people;
            case 5:
                return space.chambers;
            case 6:
                return space.depths;
            case 7:
                return space.step;
            case 8:
                return state.seed();
            case 9:
                return history.undoable();
            case 10:
                return history.redoable();
            case 11:
                return tries.count;
            case 12:
                return tries.time;
            case 13:
                return taped;
            case 14:
                return layout.formula.units;
            case 15:
                return house.pathLength;
            default:
                return NONE;
        }
    }

    /** What ACTS change, in one row, so that an ACT is kept by one copy. */
    private static final class State {
        private static final int USED = MOST_KEYS;
        private static final int HOLDER = USED + MOST_KEYS;
        private static final int PINS = HOLDER + MOST_KEYS;
        private static final int ROOM = PINS + MOST_LOCKS;
        private static final int SEED = ROOM + MOST_PEOPLE;
        private static final int CELLS = SEED + 1;

        private final int[] cells;

        State() {
            cells = new int[CELLS];
        }

        void clear() {
            Arrays.fill(cells, 0);
        }

        void copyFrom(State other) {
            System.arraycopy(other.cells, 0, cells, 0, CELLS);
        }

        private int look(int at) {
            return at >= 0 && at < CELLS ? cells[at] : 0;
        }

        private void put(int at, int value) {
            if (at >= 0 && at < CELLS) {
                cells[at] = value;
            }
        }

        int bits(int key) {
            return look(key);
        }

        void putBits(int key, int bits) {
            put(key, bits);
        }

        int used(int key) {
            return look(USED + key);
        }

        void putUsed(int key, int times) {
            put(USED + key, times);
        }

        int holder(int key) {
            return look(HOLDER + key);
        }

        void putHolder(int key, int person) {
            put(HOLDER + key, person);
        }

        int pins(int lock) {
            return look(PINS + lock);
        }

        void putPins(int lock, int pattern) {
            put(PINS + lock, pattern);
        }

        int room(int person) {
            return look(ROOM + person);
        }

        void putRoom(int person, int room) {
            put(ROOM + person, room);
        }

        int seed() {
            return look(SEED);
        }

        void putSeed(int seed) {
            put(SEED, seed);
        }

        /** Which of the first KEYS one holds, or the HOOK (NONE), or nobody any more (LOST), as bits. */
        int heldBy(int person, int keys) {
            int held = 0;
            for (int k = 0; k < keys && k < MOST_KEYS; k++) {
                if (holder(k) == person) {
                    held |= 1 << k;
                }
            }
            return held;
        }

        /** The first KEY of this BITTING; NONE if none has it. */
        int firstWith(int bits, int keys) {
            for (int k = 0; k < keys && k < MOST_KEYS; k++) {
                if (bits(k) == bits) {
                    return k;
                }
            }
            return NONE;
        }
    }

    /** All BITTINGS of a plan: what is LEGAL, in what order, how far apart. */
    private static final class Space {
        private static final int FAR = 1000;

        int chambers;
        int depths;
        int step;
        private final int[] onward;

        Space() {
            onward = new int[MOST_CHAMBERS * MOST_DEPTHS];
            reset();
        }

        void reset() {
            chambers = MOST_CHAMBERS;
            depths = MOST_DEPTHS;
            step = MOST_STEP;
        }

        void copyFrom(Space other) {
            chambers = other.chambers;
            depths = other.depths;
            step = other.step;
        }

        boolean hasChamber(int chamber) {
            return chamber >= 0 && chamber < chambers;
        }

        boolean hasDepth(int depth) {
            return depth >= 0 && depth < depths;
        }

        static int notch(int chamber, int depth) {
            return 1 << chamber * MOST_DEPTHS + depth;
        }

        static int depthsAt(int pattern, int chamber) {
            return pattern >> chamber * MOST_DEPTHS & (1 << MOST_DEPTHS) - 1;
        }

        static boolean fitsIn(int bits, int pattern) {
            return (bits & ~pattern) == 0;
        }

        int depthAt(int bits, int chamber) {
            return Integer.numberOfTrailingZeros(depthsAt(bits, chamber));
        }

        int everything() {
            return everythingBut(0);
        }

        /** The pattern of all depths in the chambers in which another pattern has none. */
        int everythingBut(int other) {
            int pattern = 0;
            for (int c = 0; c < chambers; c++) {
                if (depthsAt(other, c) == 0) {
                    pattern |= (1 << depths) - 1 << c * MOST_DEPTHS;
                }
            }
            return pattern;
        }

        /** The pattern of all that is at least as deep as a BITTING. */
        int fromDepthsOf(int bits) {
            int pattern = 0;
            for (int c = 0; c < chambers; c++) {
                int lower = notch(c, depthAt(bits, c)) - notch(c, 0);
                pattern |= notch(c, MOST_DEPTHS) - notch(c, 0) & ~lower;
            }
            return pattern;
        }

        int lowest(int ahead) {
            return Math.max(0, ahead - step);
        }

        int highest(int ahead) {
            return Math.min(depths - 1, ahead + step);
        }

        /** NONE for no BITTING. */
        int numberOf(int bits) {
            if (bits == 0) {
                return NONE;
            }
            int number = 0;
            for (int c = 0; c < chambers; c++) {
                number = number * depths + depthAt(bits, c);
            }
            return number;
        }

        /** The LEGAL BITTING of a NUMBER; none if it has none. */
        int bitsOf(int number) {
            int left = number;
            int bits = 0;
            int base = Math.max(1, depths);
            for (int c = chambers - 1; c >= 0; c--) {
                bits |= notch(c, Math.max(0, left % base));
                left /= base;
            }
            return number >= 0 && left == 0 && isLegal(bits) ? bits : 0;
        }

        private boolean isLegal(int bits) {
            for (int c = 1; c < chambers; c++) {
                if (Math.abs(depthAt(bits, c) - depthAt(bits, c - 1)) > step) {
                    return false;
                }
            }
            return true;
        }

        /** The BITTING with one CUT a depth deeper; none if it can't be. */
        int deeper(int bits, int chamber) {
            int depth = depthAt(bits, chamber);
            if (depth + 1 >= depths) {
                return 0;
            }
            int after = bits ^ notch(chamber, depth) ^ notch(chamber, depth + 1);
            return isLegal(after) ? after : 0;
        }

        /** The greatest CUT in the chambers next to one. */
        int besideOf(int bits, int chamber) {
            int ahead = chamber > 0 ? depthAt(bits, chamber - 1) : 0;
            int behind = chamber + 1 < chambers ? depthAt(bits, chamber + 1) : 0;
            return Math.max(ahead, behind);
        }

        /** How far the CUTS of two BITTINGS are from one another, together. */
        int apart(int bits, int other) {
            int sum = 0;
            for (int c = 0; c < chambers; c++) {
                sum += Math.abs(depthAt(bits, c) - depthAt(other, c));
            }
            return sum;
        }

        int least() {
            return fillUp(0, 0, 0);
        }

        /** The least LEGAL BITTING that begins with these CUTS, the chambers from one on being open, behind a depth. */
        private int fillUp(int begun, int chamber, int ahead) {
            int bits = begun;
            int depth = ahead;
            for (int c = chamber; c < chambers; c++) {
                depth = lowest(depth);
                bits |= notch(c, depth);
            }
            return bits;
        }

        /** The LEGAL BITTING with the next NUMBER; none behind the last one. */
        int after(int bits) {
            for (int c = chambers - 1; c >= 0; c--) {
                int depth = depthAt(bits, c) + 1;
                int top = c == 0 ? depths - 1 : highest(depthAt(bits, c - 1));
                if (depth <= top) {
                    int begun = bits & notch(c, 0) - 1;
                    return fillUp(begun | notch(c, depth), c + 1, depth);
                }
            }
            return 0;
        }

        private int onwardAt(int chamber, int depth) {
            int at = chamber * MOST_DEPTHS + depth;
            return at >= 0 && at < onward.length ? onward[at] : 0;
        }

        private void putOnward(int chamber, int depth, int value) {
            int at = chamber * MOST_DEPTHS + depth;
            if (at >= 0 && at < onward.length) {
                onward[at] = value;
            }
        }

        /** How many BITTINGS fit into a pattern, no CUT being farther than that from the one ahead. */
        int howMany(int pattern, int farthest) {
            for (int c = chambers - 1; c >= 0; c--) {
                for (int d = 0; d < depths; d++) {
                    putOnward(c, d, (pattern & notch(c, d)) == 0 ? 0 : waysFrom(c, d, farthest));
                }
            }
            int sum = 0;
            for (int d = 0; d < depths; d++) {
                sum += onwardAt(0, d);
            }
            return sum;
        }

        private int waysFrom(int chamber, int depth, int farthest) {
            if (chamber + 1 >= chambers) {
                return 1;
            }
            int sum = 0;
            for (int d = 0; d < depths; d++) {
                if (Math.abs(d - depth) <= farthest) {
                    sum += onwardAt(chamber + 1, d);
                }
            }
            return sum;
        }

        /** The i-th LEGAL BITTING that fits into a pattern; none if there are not so many. */
        int nth(int pattern, int i) {
            if (i < 0 || i >= howMany(pattern, step)) {
                return 0;
            }
            int left = i;
            int bits = 0;
            int low = 0;
            int high = depths - 1;
            for (int c = 0; c < chambers; c++) {
                int depth = low;
                while (depth < high && left >= onwardAt(c, depth)) {
                    left -= onwardAt(c, depth);
                    depth++;
                }
                bits |= notch(c, depth);
                low = lowest(depth);
                high = highest(depth);
            }
            return bits;
        }

        /** How many LEGAL BITTINGS are ahead of one. */
        int placeOf(int bits) {
            howMany(everything(), step);
            int sum = 0;
            int low = 0;
            for (int c = 0; c < chambers; c++) {
                int depth = depthAt(bits, c);
                for (int d = low; d < depth; d++) {
                    sum += onwardAt(c, d);
                }
                low = lowest(depth);
            }
            return sum;
        }

        /** The LEGAL BITTING that fits into a pattern of the least depth in all, then of the least NUMBER. */
        int shallowest(int pattern) {
            for (int c = chambers - 1; c >= 0; c--) {
                for (int d = 0; d < depths; d++) {
                    boolean there = (pattern & notch(c, d)) != 0;
                    putOnward(c, d, there ? Math.min(FAR, d + depthBehind(c, d)) : FAR);
                }
            }
            int bits = 0;
            int low = 0;
            int high = depths - 1;
            for (int c = 0; c < chambers; c++) {
                int depth = cheapest(c, low, high);
                if (onwardAt(c, depth) >= FAR) {
                    return 0;
                }
                bits |= notch(c, depth);
                low = lowest(depth);
                high = highest(depth);
            }
            return bits;
        }

        private int depthBehind(int chamber, int depth) {
            if (chamber + 1 >= chambers) {
                return 0;
            }
            return onwardAt(chamber + 1, cheapest(chamber + 1, lowest(depth), highest(depth)));
        }

        private int cheapest(int chamber, int low, int high) {
            int found = low;
            for (int d = low + 1; d <= high; d++) {
                if (onwardAt(chamber, d) < onwardAt(chamber, found)) {
                    found = d;
                }
            }
            return found;
        }
    }

    /** How keys wear: the formula in the order in which a stack of numbers works it out. */
    private static final class Formula {
        static final int NUMBER = 0;
        static final int CUT = 1;
        static final int BESIDE = 2;
        static final int USES = 3;
        static final int CHAMBER = 4;
        static final int NOT = 5;
        static final int OR = 6;
        static final int AND = 7;
        static final int LESS = 8;
        static final int MORE = 9;
        static final int SAME = 10;
        static final int PLUS = 11;
        static final int MINUS = 12;
        static final int TIMES = 13;
        static final int OVER = 14;
        static final int REST = 15;

        static final int MOST_UNITS = 30;
        static final int MOST_WITHIN = 6;
        // each unit with seven nots ahead of it, and an operation between each two
        private static final int MOST_CODE = MOST_UNITS * (MOST_WITHIN + 3);

        int units;
        private int length;
        private final int[] codes;
        private final int[] numbers;
        private final int[] stack;

        Formula() {
            units = 0;
            length = 0;
            codes = new int[MOST_CODE];
            numbers = new int[MOST_CODE];
            stack = new int[MOST_UNITS + 1];
        }

        void clear() {
            units = 0;
            length = 0;
        }

        void copyFrom(Formula other) {
            units = other.units;
            length = other.length;
            System.arraycopy(other.codes, 0, codes, 0, MOST_CODE);
            System.arraycopy(other.numbers, 0, numbers, 0, MOST_CODE);
        }

        void append(int code, int number) {
            if (length >= 0 && length < MOST_CODE) {
                codes[length] = code;
                numbers[length] = number;
                length++;
            }
        }

        int value(int depth, int beside, int times, int chamber) {
            int top = 0;
            for (int i = 0; i < length && i < MOST_CODE; i++) {
                int code = codes[i];
                if (code > NOT && top >= 2) {
                    top--;
                    stack[top - 1] = joined(code, stack[top - 1], stack[top]);
                } else if (code == NOT && top >= 1) {
                    stack[top - 1] = truth(stack[top - 1] == 0);
                } else if (code < NOT && top < stack.length) {
                    stack[top] = unitValue(code, numbers[i], depth, beside, times, chamber);
                    top++;
                }
            }
            return top > 0 ? stack[top - 1] : 0;
        }

        private static int unitValue(int code, int number, int depth, int beside, int times, int chamber) {
            switch (code) {
                case CUT:
                    return depth;
                case BESIDE:
                    return beside;
                case USES:
                    return times;
                case CHAMBER:
                    return chamber;
                default:
                    return number;
            }
        }

        private static int truth(boolean is) {
            return is ? 1 : 0;
        }

        private static int joined(int code, int a, int b) {
            switch (code) {
                case OR:
                    return truth(a != 0 || b != 0);
                case AND:
                    return truth(a != 0 && b != 0);
                case LESS:
                    return truth(a < b);
                case MORE:
                    return truth(a > b);
                case SAME:
                    return truth(a == b);
                case PLUS:
                    return a + b;
                case MINUS:
                    return a - b;
                case TIMES:
                    return a * b;
                case OVER:
                    return b == 0 ? 0 : a / b;
                case REST:
                    return b == 0 ? 0 : a % b;
                default:
                    return 0;
            }
        }
    }

    /** A PLAN as it was told. */
    private static final class Layout {
        final Space space;
        final Formula formula;
        final State toldState;
        int keys;
        int locks;
        int rooms;
        int doors;
        int people;
        private final int[] from;
        private final int[] to;
        private final int[] lockOf;
        private final int[] must;
        private final int[] never;

        Layout() {
            space = new Space();
            formula = new Formula();
            toldState = new State();
            from = new int[MOST_DOORS];
            to = new int[MOST_DOORS];
            lockOf = new int[MOST_DOORS];
            must = new int[MOST_LOCKS];
            never = new int[MOST_LOCKS];
        }

        void clear() {
            space.reset();
            formula.clear();
            toldState.clear();
            keys = 0;
            locks = 0;
            rooms = 0;
            doors = 0;
            people = 0;
            Arrays.fill(must, 0);
            Arrays.fill(never, 0);
        }

        void copyFrom(Layout other) {
            space.copyFrom(other.space);
            formula.copyFrom(other.formula);
            toldState.copyFrom(other.toldState);
            keys = other.keys;
            locks = other.locks;
            rooms = other.rooms;
            doors = other.doors;
            people = other.people;
            System.arraycopy(other.from, 0, from, 0, MOST_DOORS);
            System.arraycopy(other.to, 0, to, 0, MOST_DOORS);
            System.arraycopy(other.lockOf, 0, lockOf, 0, MOST_DOORS);
            System.arraycopy(other.must, 0, must, 0, MOST_LOCKS);
            System.arraycopy(other.never, 0, never, 0, MOST_LOCKS);
        }

        boolean hasKey(int key) {
            return key >= 0 && key < keys;
        }

        boolean hasLock(int lock) {
            return lock >= 0 && lock < locks;
        }

        boolean hasRoom(int room) {
            return room >= 0 && room < rooms;
        }

        boolean hasDoor(int door) {
            return door >= 0 && door < doors;
        }

        boolean hasPerson(int person) {
            return person >= 0 && person < people;
        }

        int allKeys() {
            return (1 << keys) - 1;
        }

        int allLocks() {
            return (1 << locks) - 1;
        }

        int allRooms() {
            return (1 << rooms) - 1;
        }

        boolean hasKeys(int set) {
            return (set & ~allKeys()) == 0;
        }

        boolean hasLocks(int set) {
            return (set & ~allLocks()) == 0;
        }

        void addDoor(int ahead, int behind, int lock) {
            if (doors >= 0 && doors < MOST_DOORS) {
                from[doors] = ahead;
                to[doors] = behind;
                lockOf[doors] = lock;
                doors++;
            }
        }

        private static int look(int[] row, int at) {
            return at >= 0 && at < row.length ? row[at] : 0;
        }

        int doorFrom(int door) {
            return look(from, door);
        }

        int doorTo(int door) {
            return look(to, door);
        }

        int doorLock(int door) {
            return look(lockOf, door);
        }

        /** The ROOM to which a DOOR leads from a ROOM; NONE if it is none of that ROOM. */
        int otherSide(int door, int room) {
            if (doorFrom(door) == room) {
                return doorTo(door);
            }
            return doorTo(door) == room ? doorFrom(door) : NONE;
        }

        int mustOf(int lock) {
            return look(must, lock);
        }

        int neverOf(int lock) {
            return look(never, lock);
        }

        void addMust(int key, int lock) {
            if (lock >= 0 && lock < MOST_LOCKS) {
                must[lock] |= 1 << key;
            }
        }

        void addNever(int key, int lock) {
            if (lock >= 0 && lock < MOST_LOCKS) {
                never[lock] |= 1 << key;
            }
        }
    }

    /** The TOKENS of a text, one at a time. */
    private static final class Tokens {
        static final int CHAMBERS = 0;
        static final int DEPTHS = 1;
        static final int STEP = 2;
        static final int KEY = 3;
        static final int LOCK = 4;
        static final int ROOM = 5;
        static final int DOOR = 6;
        static final int PERSON = 7;
        static final int MUST = 8;
        static final int NEVER = 9;
        static final int WEAR = 10;
        static final int DRAW = 11;
        static final int FROM = 12;
        static final int TO = 13;
        static final int IN = 14;
        static final int HOLDS = 15;
        static final int OR = 16;
        static final int AND = 17;
        static final int NOT = 18;
        static final int CUT = 19;
        static final int BESIDE = 20;
        static final int USES = 21;
        static final int CHAMBER = 22;
        // in the order of the numbers above
        private static final String OWN_WORDS =
                "chambers depths step key lock room door person must never wear draw from to in holds or and not cut beside uses chamber ";
        private static final int OWN_WORD_COUNT = 23;

        // these stay below the signs, each of which is a TOKEN by its own byte
        static final int NAME = 23;
        static final int NUMBER = 24;
        static final int BAD = 25;
        static final int END = 26;
        private static final String SIGNS = ";()<>=+-*/%";

        private static final int MOST_LETTERS = 8;
        private static final int MOST_DIGITS = 4;

        private final byte[] text;
        private final long[] ownWords;
        private int length;
        private int at;
        int token;
        int place;
        int number;
        long word;

        Tokens(byte[] text) {
            this.text = text;
            ownWords = new long[OWN_WORD_COUNT];
            int filled = 0;
            long packed = 0;
            for (int i = 0; i < OWN_WORDS.length(); i++) {
                char c = OWN_WORDS.charAt(i);
                if (c != ' ') {
                    packed = withLetter(packed, c);
                } else if (filled < OWN_WORD_COUNT) {
                    ownWords[filled] = packed;
                    filled++;
                    packed = 0;
                }
            }
        }

        void begin(int bytes) {
            length = Math.min(bytes, text.length);
            at = 0;
            advance();
        }

        /** A word of eight letters has its place in a long, so that NAMES are told apart by one comparison. */
        private static long withLetter(long packed, int letter) {
            return packed * 32 + (letter - 'a' + 1);
        }

        private int byteAt(int index) {
            return index >= 0 && index < length && index < text.length ? text[index] & 255 : NONE;
        }

        private static boolean isLetter(int c) {
            return c >= 'a' && c <= 'z';
        }

        private static boolean isDigit(int c) {
            return c >= '0' && c <= '9';
        }

        /** A fault in a TOKEN is only noted here: what is wrong ahead of it comes first. */
        void advance() {
            while (at < length && (byteAt(at) == ' ' || byteAt(at) == '\n')) {
                at++;
            }
            place = at;
            int c = byteAt(at);
            if (at >= length) {
                token = END;
            } else if (isLetter(c)) {
                readWord();
            } else if (isDigit(c)) {
                readNumber();
            } else {
                token = c < 128 && SIGNS.indexOf((char) c) >= 0 ? c : BAD;
                at++;
            }
        }

        private void readWord() {
            word = 0;
            while (at < length && isLetter(byteAt(at))) {
                word = withLetter(word, byteAt(at));
                at++;
            }
            token = at - place > MOST_LETTERS ? BAD : NAME;
            for (int i = 0; i < OWN_WORD_COUNT; i++) {
                if (token == NAME && ownWords[i] == word) {
                    token = i;
                }
            }
        }

        private void readNumber() {
            number = 0;
            while (at < length && isDigit(byteAt(at))) {
                number = number * 10 + (byteAt(at) - '0');
                at++;
            }
            token = at - place > MOST_DIGITS || isLetter(byteAt(at)) ? BAD : NUMBER;
        }
    }

    /** Reads a text into a draft, up to its first FAULT. */
    private static final class Reader {
        private static final int NO_TOKEN = 1;
        private static final int MISPLACED = 2;
        private static final int TOLD_ALREADY = 3;
        private static final int CANNOT_BE = 4;
        private static final int UNKNOWN = 5;

        private static final int KEYS = 0;
        private static final int LOCKS = 1;
        private static final int ROOMS = 2;
        private static final int DOORS = 3;
        private static final int PEOPLE = 4;
        private static final int SORTS = 5;
        private static final int MOST_NAMES = 8;
        private static final int MOST_SEED = 999;

        final Layout draft;
        int faultKind;
        int faultPlace;
        private final Tokens tokens;
        private final long[][] names;
        private int toldOnce;

        Reader(byte[] text) {
            draft = new Layout();
            faultKind = 0;
            faultPlace = NONE;
            tokens = new Tokens(text);
            names = new long[SORTS][MOST_NAMES];
        }

        boolean readAll(int bytes) {
            draft.clear();
            faultKind = 0;
            faultPlace = NONE;
            toldOnce = 0;
            tokens.begin(bytes);
            boolean good = true;
            for (int i = 0; i <= TAPE_BYTES && good && tokens.token != Tokens.END; i++) {
                good = readLine();
            }
            return good;
        }

        private boolean blame(int kind) {
            faultKind = kind;
            faultPlace = tokens.place;
            return false;
        }

        private boolean refuse() {
            return blame(tokens.token == Tokens.BAD ? NO_TOKEN : MISPLACED);
        }

        private boolean expect(int token) {
            if (tokens.token != token) {
                return refuse();
            }
            tokens.advance();
            return true;
        }

        private boolean readLine() {
            switch (tokens.token) {
                case Tokens.CHAMBERS:
                    return readOnce(2, MOST_CHAMBERS);
                case Tokens.DEPTHS:
                    return readOnce(2, MOST_DEPTHS);
                case Tokens.STEP:
                    return readOnce(0, MOST_STEP);
                case Tokens.KEY:
                    return readKey();
                case Tokens.LOCK:
                    return readLock();
                case Tokens.ROOM:
                    return readRoom();
                case Tokens.DOOR:
                    return readDoor();
                case Tokens.PERSON:
                    return readPerson();
                case Tokens.MUST:
                case Tokens.NEVER:
                    return readRule();
                case Tokens.WEAR:
                    return beginOnce() && readEither(0) && expect(';');
                case Tokens.DRAW:
                    return readOnce(0, MOST_SEED);
                default:
                    return refuse();
            }
        }

        /** The first word of a line that stands once. */
        private boolean beginOnce() {
            int line = 1 << tokens.token;
            if ((toldOnce & line) != 0) {
                return refuse();
            }
            toldOnce |= line;
            tokens.advance();
            return true;
        }

        /** A line of one number, from low to high. */
        private boolean readOnce(int low, int high) {
            int line = tokens.token;
            boolean measured = draft.keys > 0 || draft.locks > 0;
            if (measured && line != Tokens.DRAW) {
                return refuse();
            }
            if (!beginOnce()) {
                return false;
            }
            if (tokens.token != Tokens.NUMBER) {
                return refuse();
            }
            int number = tokens.number;
            if (number < low || number > high) {
                return blame(CANNOT_BE);
            }
            if (line == Tokens.CHAMBERS) {
                draft.space.chambers = number;
            } else if (line == Tokens.DEPTHS) {
                draft.space.depths = number;
            } else if (line == Tokens.STEP) {
                draft.space.step = number;
            } else {
                draft.toldState.putSeed(number);
            }
            tokens.advance();
            return expect(';');
        }

        /** The number of the one of a sort whose NAME stands here; NONE if none of them has it. */
        private int named(int sort, int count) {
            if (sort < 0 || sort >= SORTS) {
                return NONE;
            }
            for (int i = 0; i < count && i < MOST_NAMES; i++) {
                if (names[sort][i] == tokens.word) {
                    return i;
                }
            }
            return NONE;
        }

        /** The line's first word and a NAME that none of the sort has yet, if there is place for one more. */
        private boolean readNewName(int sort, int count, int most) {
            if (count >= most) {
                return refuse();
            }
            tokens.advance();
            if (tokens.token != Tokens.NAME) {
                return refuse();
            }
            if (named(sort, count) != NONE) {
                return blame(TOLD_ALREADY);
            }
            if (sort >= 0 && sort < SORTS && count >= 0 && count < MOST_NAMES) {
                names[sort][count] = tokens.word;
            }
            tokens.advance();
            return true;
        }

        /** One of a sort by its NAME, which stays the present TOKEN, for other faults at it; NONE behind a fault. */
        private int knownName(int sort, int count) {
            if (tokens.token != Tokens.NAME) {
                refuse();
                return NONE;
            }
            int found = named(sort, count);
            if (found == NONE) {
                blame(UNKNOWN);
            }
            return found;
        }

        /** A depth, which stays the present TOKEN; NONE behind a fault. */
        private int depthHere() {
            if (tokens.token != Tokens.NUMBER) {
                refuse();
                return NONE;
            }
            if (!draft.space.hasDepth(tokens.number)) {
                blame(CANNOT_BE);
                return NONE;
            }
            return tokens.number;
        }

        private boolean readKey() {
            if (!readNewName(KEYS, draft.keys, MOST_KEYS)) {
                return false;
            }
            int bits = 0;
            int ahead = 0;
            for (int c = 0; c < draft.space.chambers; c++) {
                int depth = depthHere();
                if (depth == NONE) {
                    return false;
                }
                if (c > 0 && Math.abs(depth - ahead) > draft.space.step) {
                    return blame(CANNOT_BE);
                }
                bits |= Space.notch(c, depth);
                ahead = depth;
                tokens.advance();
            }
            draft.toldState.putBits(draft.keys, bits);
            draft.toldState.putHolder(draft.keys, NONE);
            draft.keys++;
            return expect(';');
        }

        private boolean readLock() {
            if (!readNewName(LOCKS, draft.locks, MOST_LOCKS)) {
                return false;
            }
            int pins = 0;
            for (int c = 0; c < draft.space.chambers; c++) {
                int pattern = readPart(c);
                if (pattern == 0) {
                    return false;
                }
                pins |= pattern;
            }
            draft.toldState.putPins(draft.locks, pins);
            draft.locks++;
            return expect(';');
        }

        /** The depths of one chamber as a pattern; no bits behind a fault. */
        private int readPart(int chamber) {
            int pattern = 0;
            // the depths are unlike, so one more than there are is always a fault
            for (int i = 0; i <= MOST_DEPTHS; i++) {
                int depth = depthHere();
                if (depth == NONE) {
                    return 0;
                }
                if ((pattern & Space.notch(chamber, depth)) != 0) {
                    blame(TOLD_ALREADY);
                    return 0;
                }
                pattern |= Space.notch(chamber, depth);
                tokens.advance();
                if (tokens.token != '/') {
                    return pattern;
                }
                tokens.advance();
            }
            return 0;
        }

        private boolean readRoom() {
            if (!readNewName(ROOMS, draft.rooms, MOST_ROOMS)) {
                return false;
            }
            draft.rooms++;
            return expect(';');
        }

        private boolean readDoor() {
            if (!readNewName(DOORS, draft.doors, MOST_DOORS) || !expect(Tokens.FROM)) {
                return false;
            }
            int from = knownName(ROOMS, draft.rooms);
            if (from == NONE) {
                return false;
            }
            tokens.advance();
            if (!expect(Tokens.TO)) {
                return false;
            }
            int to = knownName(ROOMS, draft.rooms);
            if (to == NONE) {
                return false;
            }
            if (to == from) {
                return blame(TOLD_ALREADY);
            }
            tokens.advance();
            if (!expect(Tokens.LOCK)) {
                return false;
            }
            int lock = knownName(LOCKS, draft.locks);
            if (lock == NONE) {
                return false;
            }
            tokens.advance();
            draft.addDoor(from, to, lock);
            return expect(';');
        }

        private boolean readPerson() {
            if (!readNewName(PEOPLE, draft.people, MOST_PEOPLE) || !expect(Tokens.IN)) {
                return false;
            }
            int room = knownName(ROOMS, draft.rooms);
            if (room == NONE) {
                return false;
            }
            tokens.advance();
            if (tokens.token == Tokens.HOLDS && !readHeld()) {
                return false;
            }
            draft.toldState.putRoom(draft.people, room);
            draft.people++;
            return expect(';');
        }

        private boolean readHeld() {
            tokens.advance();
            // a KEY is held once, so one more than there are is always a fault
            for (int i = 0; i <= MOST_KEYS; i++) {
                int key = knownName(KEYS, draft.keys);
                if (key == NONE) {
                    return false;
                }
                if (draft.toldState.holder(key) != NONE) {
                    return blame(TOLD_ALREADY);
                }
                draft.toldState.putHolder(key, draft.people);
                tokens.advance();
                if (tokens.token != Tokens.NAME) {
                    return true;
                }
            }
            return refuse();
        }

        private boolean readRule() {
            boolean must = tokens.token == Tokens.MUST;
            tokens.advance();
            int key = knownName(KEYS, draft.keys);
            if (key == NONE) {
                return false;
            }
            tokens.advance();
            int lock = knownName(LOCKS, draft.locks);
            if (lock == NONE) {
                return false;
            }
            if (((draft.mustOf(lock) | draft.neverOf(lock)) >> key & 1) != 0) {
                return blame(TOLD_ALREADY);
            }
            if (must) {
                draft.addMust(key, lock);
            } else {
                draft.addNever(key, lock);
            }
            tokens.advance();
            return expect(';');
        }

        // the depth of these is how many units in brackets and ones behind not are open around

        private boolean readEither(int depth) {
            boolean good = readBoth(depth);
            for (int i = 0; i < TAPE_BYTES && good && tokens.token == Tokens.OR; i++) {
                tokens.advance();
                good = readBoth(depth);
                draft.formula.append(Formula.OR, 0);
            }
            return good;
        }

        private boolean readBoth(int depth) {
            boolean good = readOne(depth);
            for (int i = 0; i < TAPE_BYTES && good && tokens.token == Tokens.AND; i++) {
                tokens.advance();
                good = readOne(depth);
                draft.formula.append(Formula.AND, 0);
            }
            return good;
        }

        private boolean readOne(int depth) {
            if (tokens.token == Tokens.NOT) {
                if (depth > Formula.MOST_WITHIN) {
                    return refuse();
                }
                tokens.advance();
                boolean good = readOne(depth + 1);
                draft.formula.append(Formula.NOT, 0);
                return good;
            }
            boolean good = readSum(depth);
            int relation = relationHere();
            if (good && relation != NONE) {
                tokens.advance();
                good = readSum(depth);
                draft.formula.append(relation, 0);
            }
            return good;
        }

        private int relationHere() {
            switch (tokens.token) {
                case '<':
                    return Formula.LESS;
                case '>':
                    return Formula.MORE;
                case '=':
                    return Formula.SAME;
                default:
                    return NONE;
            }
        }

        private boolean readSum(int depth) {
            boolean good = readTerm(depth);
            for (int i = 0; i < TAPE_BYTES && good && (tokens.token == '+' || tokens.token == '-'); i++) {
                int code = tokens.token == '+' ? Formula.PLUS : Formula.MINUS;
                tokens.advance();
                good = readTerm(depth);
                draft.formula.append(code, 0);
            }
            return good;
        }

        private boolean readTerm(int depth) {
            boolean good = readUnit(depth);
            for (int i = 0; i < TAPE_BYTES && good && productHere() != NONE; i++) {
                int code = productHere();
                tokens.advance();
                good = readUnit(depth);
                draft.formula.append(code, 0);
            }
            return good;
        }

        private int productHere() {
            switch (tokens.token) {
                case '*':
                    return Formula.TIMES;
                case '/':
                    return Formula.OVER;
                case '%':
                    return Formula.REST;
                default:
                    return NONE;
            }
        }

        private boolean readUnit(int depth) {
            boolean brackets = tokens.token == '(';
            int code = unitHere();
            if (!brackets && code == NONE || draft.formula.units >= Formula.MOST_UNITS) {
                return refuse();
            }
            if (brackets && depth > Formula.MOST_WITHIN) {
                return refuse();
            }
            draft.formula.units++;
            if (!brackets) {
                draft.formula.append(code, tokens.number);
            }
            tokens.advance();
            return !brackets || readEither(depth + 1) && expect(')');
        }

        private int unitHere() {
            switch (tokens.token) {
                case Tokens.NUMBER:
                    return Formula.NUMBER;
                case Tokens.CUT:
                    return Formula.CUT;
                case Tokens.BESIDE:
                    return Formula.BESIDE;
                case Tokens.USES:
                    return Formula.USES;
                case Tokens.CHAMBER:
                    return Formula.CHAMBER;
                default:
                    return NONE;
            }
        }
    }

    /** ACTS that can be undone and redone: what was ahead of each, in a ring. */
    private static final class History {
        private static final int MOST_KEPT = 40;
        // one more, for what was when the latest ACT was taken back
        private static final int SLOTS = MOST_KEPT + 1;

        private final State[] slots;
        private int oldest;
        private int done;
        private int kept;

        History() {
            slots = new State[SLOTS];
            for (int i = 0; i < SLOTS; i++) {
                slots[i] = new State();
            }
        }

        void forget() {
            oldest = 0;
            done = 0;
            kept = 0;
        }

        int undoable() {
            return done;
        }

        int redoable() {
            return kept - done;
        }

        private State slot(int i) {
            return slots[Math.floorMod(oldest + i, SLOTS)];
        }

        /** To be called ahead of each ACT. */
        void keep(State now) {
            if (done >= MOST_KEPT) {
                oldest = (oldest + 1) % SLOTS;
                done--;
            }
            slot(done).copyFrom(now);
            done++;
            kept = done;
        }

        boolean goBack(State now) {
            if (done <= 0) {
                return false;
            }
            slot(done).copyFrom(now);
            done--;
            now.copyFrom(slot(done));
            return true;
        }

        boolean goOn(State now) {
            if (done >= kept) {
                return false;
            }
            done++;
            now.copyFrom(slot(done));
            return true;
        }
    }

    /**
     * For each set of LOCKS, of the LEGAL BITTINGS that OPEN just these: how many there are, the least NUMBER, and the
     * depths that they have. Found chamber by chamber, over the last depth and the LOCKS that may still open: few
     * steps, however many BITTINGS there are.
     */
    private static final class Survey {
        private static final int ROWS = MOST_DEPTHS * LOCK_SETS;
        private static final int MARKS = 4 + MOST_LOCKS;

        private final Layout layout;
        private final Space space;
        private final int[] marks;
        private final int[] allowed;
        private int[] counts;
        private int[] leasts;
        private int[] mets;
        private int[] nextCounts;
        private int[] nextLeasts;
        private int[] nextMets;
        private final int[] setCounts;
        private final int[] setLeasts;
        private final int[] setMets;

        Survey(Layout layout) {
            this.layout = layout;
            space = layout.space;
            marks = new int[MARKS];
            allowed = new int[MOST_DEPTHS];
            counts = new int[ROWS];
            leasts = new int[ROWS];
            mets = new int[ROWS];
            nextCounts = new int[ROWS];
            nextLeasts = new int[ROWS];
            nextMets = new int[ROWS];
            setCounts = new int[LOCK_SETS];
            setLeasts = new int[LOCK_SETS];
            setMets = new int[LOCK_SETS];
        }

        /** Surveys the LOCKS as they are pinned in a state, if that is not what was surveyed last. */
        void take(State from) {
            boolean same = isMarked(0, space.chambers) & isMarked(1, space.depths) & isMarked(2, space.step)
                    & isMarked(3, layout.locks);
            for (int l = 0; l < MOST_LOCKS; l++) {
                same &= isMarked(4 + l, from.pins(l));
            }
            if (same) {
                return;
            }
            Arrays.fill(nextCounts, 0);
            allowIn(0, from);
            for (int d = 0; d < space.depths && d < MOST_DEPTHS; d++) {
                add(d, allowed[d], 1, d, Space.notch(0, d));
            }
            changeOver();
            for (int c = 1; c < space.chambers; c++) {
                allowIn(c, from);
                addChamber(c);
            }
            gather();
        }

        /** Whether a mark is this already; it is then. */
        private boolean isMarked(int at, int value) {
            if (at < 0 || at >= MARKS) {
                return false;
            }
            boolean same = marks[at] == value;
            marks[at] = value;
            return same;
        }

        /** For each depth: the LOCKS that have it in a chamber. */
        private void allowIn(int chamber, State from) {
            for (int d = 0; d < MOST_DEPTHS; d++) {
                int locks = 0;
                for (int l = 0; l < layout.locks; l++) {
                    if ((from.pins(l) & Space.notch(chamber, d)) != 0) {
                        locks |= 1 << l;
                    }
                }
                allowed[d] = locks;
            }
        }

        private void add(int depth, int locks, int count, int least, int met) {
            int row = depth * LOCK_SETS + locks;
            if (row < 0 || row >= ROWS) {
                return;
            }
            boolean first = nextCounts[row] == 0;
            nextLeasts[row] = first ? least : Math.min(nextLeasts[row], least);
            nextMets[row] = first ? met : nextMets[row] | met;
            nextCounts[row] += count;
        }

        private void addChamber(int chamber) {
            Arrays.fill(nextCounts, 0);
            for (int row = 0; row < ROWS; row++) {
                if (counts[row] > 0) {
                    int ahead = row / LOCK_SETS;
                    for (int d = space.lowest(ahead); d <= space.highest(ahead) && d < MOST_DEPTHS; d++) {
                        add(d, row % LOCK_SETS & allowed[d], counts[row], leasts[row] * space.depths + d,
                                mets[row] | Space.notch(chamber, d));
                    }
                }
            }
            changeOver();
        }

        private void changeOver() {
            int[] row = counts;
            counts = nextCounts;
            nextCounts = row;
            row = leasts;
            leasts = nextLeasts;
            nextLeasts = row;
            row = mets;
            mets = nextMets;
            nextMets = row;
        }

        private void gather() {
            Arrays.fill(setCounts, 0);
            for (int row = 0; row < ROWS; row++) {
                int set = row % LOCK_SETS;
                if (counts[row] > 0) {
                    boolean first = setCounts[set] == 0;
                    setLeasts[set] = first ? leasts[row] : Math.min(setLeasts[set], leasts[row]);
                    setMets[set] = first ? mets[row] : setMets[set] | mets[row];
                    setCounts[set] += counts[row];
                }
            }
        }

        /** Whether there are BITTINGS that OPEN just this set, and it has all of some LOCKS and none of others. */
        private boolean isSuch(int set, int open, int shut) {
            return setCounts[set] > 0 && (set & open) == open && (set & shut) == 0;
        }

        int total(int open, int shut) {
            int sum = 0;
            for (int set = 0; set < LOCK_SETS; set++) {
                if (isSuch(set, open, shut)) {
                    sum += setCounts[set];
                }
            }
            return sum;
        }

        int leastNumber(int open, int shut) {
            int least = NONE;
            for (int set = 0; set < LOCK_SETS; set++) {
                if (isSuch(set, open, shut) && (least == NONE || setLeasts[set] < least)) {
                    least = setLeasts[set];
                }
            }
            return least;
        }

        /** The pattern of all depths that some such BITTING has. */
        int depthsMet(int open, int shut) {
            int met = 0;
            for (int set = 0; set < LOCK_SETS; set++) {
                if (isSuch(set, open, shut)) {
                    met |= setMets[set];
                }
            }
            return met;
        }

        /** The LOCKS that the MASTER OPENS. */
        int masterLocks() {
            int chosen = NONE;
            for (int set = 0; set < LOCK_SETS; set++) {
                if (isSuch(set, 0, 0) && (chosen == NONE || isBetter(set, chosen))) {
                    chosen = set;
                }
            }
            return Math.max(0, chosen);
        }

        private boolean isBetter(int set, int than) {
            int more = Integer.bitCount(set) - Integer.bitCount(than);
            return more > 0 || more == 0 && setLeasts[set] < setLeasts[than];
        }
    }

    /** Who comes where, by which KEYS. */
    private static final class House {
        private final Layout layout;
        private final State state;
        private final int[] distances;
        private final int[] bunches;
        private final int[] path;
        int pathLength;

        House(Layout layout, State state) {
            this.layout = layout;
            this.state = state;
            distances = new int[MOST_ROOMS];
            bunches = new int[MOST_PEOPLE];
            path = new int[MOST_ROOMS];
            pathLength = 0;
        }

        /** LOCKS that one at least of these KEYS OPENS, as bits. */
        int locksFor(int keys) {
            int locks = 0;
            for (int k = 0; k < layout.keys; k++) {
                for (int l = 0; l < layout.locks && (keys >> k & 1) != 0; l++) {
                    if (Space.fitsIn(state.bits(k), state.pins(l))) {
                        locks |= 1 << l;
                    }
                }
            }
            return locks;
        }

        /** KEYS that OPEN a LOCK, as bits. */
        int keysFor(int lock) {
            int keys = 0;
            for (int k = 0; k < layout.keys; k++) {
                if (Space.fitsIn(state.bits(k), state.pins(lock))) {
                    keys |= 1 << k;
                }
            }
            return keys;
        }

        /** ROOMS to which one comes from a ROOM through DOORS of these LOCKS. */
        private int flood(int room, int locks) {
            int rooms = 1 << room;
            for (int pass = 0; pass < MOST_ROOMS; pass++) {
                for (int d = 0; d < layout.doors; d++) {
                    int sides = 1 << layout.doorFrom(d) | 1 << layout.doorTo(d);
                    if ((locks >> layout.doorLock(d) & 1) != 0 && (rooms & sides) != 0) {
                        rooms |= sides;
                    }
                }
            }
            return rooms;
        }

        private int reachWith(int person, int keys) {
            return flood(state.room(person), locksFor(keys));
        }

        int reachOf(int person) {
            return reachWith(person, state.heldBy(person, layout.keys));
        }

        void forgetPath() {
            pathLength = 0;
        }

        int pathDoor(int i) {
            return i >= 0 && i < pathLength && i < path.length ? path[i] : NOTHING_THERE;
        }

        /** The ROUTE, which is the path then: how many DOORS. */
        int findPath(int person, int room) {
            int locks = locksFor(state.heldBy(person, layout.keys));
            int here = state.room(person);
            measure(room, locks);
            pathLength = 0;
            int left = distanceOf(here);
            if (left == NONE) {
                return NONE;
            }
            while (left > 0 && pathLength < path.length) {
                left--;
                int door = doorTowards(here, left, locks);
                path[pathLength] = door;
                pathLength++;
                here = layout.otherSide(door, here);
            }
            return pathLength;
        }

        private int distanceOf(int room) {
            return room >= 0 && room < MOST_ROOMS ? distances[room] : NONE;
        }

        private void putDistance(int room, int distance) {
            if (room >= 0 && room < MOST_ROOMS && distances[room] == NONE) {
                distances[room] = distance;
            }
        }

        /** How many DOORS of these LOCKS each ROOM is from one; NONE from where one can't come. */
        private void measure(int room, int locks) {
            Arrays.fill(distances, NONE);
            putDistance(room, 0);
            for (int far = 0; far < MOST_ROOMS; far++) {
                for (int d = 0; d < layout.doors; d++) {
                    if ((locks >> layout.doorLock(d) & 1) != 0) {
                        spread(layout.doorFrom(d), layout.doorTo(d), far);
                        spread(layout.doorTo(d), layout.doorFrom(d), far);
                    }
                }
            }
        }

        private void spread(int from, int to, int far) {
            if (distanceOf(from) == far) {
                putDistance(to, far + 1);
            }
        }

        /** The first DOOR of a ROOM into one that is so far off. */
        private int doorTowards(int here, int far, int locks) {
            for (int d = 0; d < layout.doors; d++) {
                int there = layout.otherSide(d, here);
                if ((locks >> layout.doorLock(d) & 1) != 0 && there != NONE && distanceOf(there) == far) {
                    return d;
                }
            }
            return NONE;
        }

        /** BUNCH, as bits. */
        int fewestKeys(int from, int to) {
            int present = layout.allKeys() & ~state.heldBy(LOST, layout.keys);
            int found = NONE;
            for (int set = 0; set <= present; set++) {
                boolean fewer = found == NONE || Integer.bitCount(set) < Integer.bitCount(found);
                if (fewer && (set & ~present) == 0 && (flood(from, locksFor(set)) >> to & 1) != 0) {
                    found = set;
                }
            }
            return found;
        }

        /** TOGETHER. */
        int sharedReach(int person) {
            for (int p = 0; p < layout.people && p < MOST_PEOPLE; p++) {
                bunches[p] = state.heldBy(p, layout.keys);
            }
            boolean changes = true;
            // each round but the last makes some bunch larger
            for (int round = 0; round <= MOST_PEOPLE * MOST_KEYS && changes; round++) {
                changes = false;
                for (int p = 0; p < layout.people; p++) {
                    for (int q = 0; q < p; q++) {
                        changes |= handOn(p, q);
                    }
                }
            }
            return reachWith(person, bunchOf(person));
        }

        private int bunchOf(int person) {
            return person >= 0 && person < MOST_PEOPLE ? bunches[person] : 0;
        }

        /** Two hand on what they have, if they meet: whether one has more then. */
        private boolean handOn(int one, int other) {
            int all = bunchOf(one) | bunchOf(other);
            boolean alike = bunchOf(one) == bunchOf(other);
            if (alike || one < 0 || other < 0 || one >= MOST_PEOPLE || other >= MOST_PEOPLE) {
                return false;
            }
            if ((reachWith(one, bunchOf(one)) & reachWith(other, bunchOf(other))) == 0) {
                return false;
            }
            bunches[one] = all;
            bunches[other] = all;
            return true;
        }

        /** TRADE: the one's KEY, MOST_KEYS-fold, and the other one's; NONE if there is none. */
        int exchange(int person, int other) {
            int mine = state.heldBy(person, layout.keys);
            int theirs = state.heldBy(other, layout.keys);
            int myRooms = Integer.bitCount(reachWith(person, mine));
            int theirRooms = Integer.bitCount(reachWith(other, theirs));
            for (int a = 0; a < layout.keys; a++) {
                for (int b = 0; b < layout.keys; b++) {
                    int both = 1 << a | 1 << b;
                    boolean can = (mine >> a & 1) != 0 && (theirs >> b & 1) != 0;
                    if (can && Integer.bitCount(reachWith(person, mine ^ both)) > myRooms
                            && Integer.bitCount(reachWith(other, theirs ^ both)) > theirRooms) {
                        return a * MOST_KEYS + b;
                    }
                }
            }
            return NONE;
        }
    }

    /** What must OPEN and what never may. */
    private static final class Rules {
        private static final int MOST_BARS = MOST_KEYS * MOST_LOCKS;

        private final Layout layout;
        private final State state;
        private final Space space;
        private final int[] bars;
        private int barCount;

        Rules(Layout layout, State state) {
            this.layout = layout;
            this.state = state;
            space = layout.space;
            bars = new int[MOST_BARS];
            barCount = 0;
        }

        /** The pattern of a LOCK that is pinned for KEYS. */
        int pinsFor(int keys) {
            int pattern = 0;
            for (int k = 0; k < layout.keys; k++) {
                if ((keys >> k & 1) != 0) {
                    pattern |= state.bits(k);
                }
            }
            return pattern;
        }

        private boolean isBroken(int key, int lock) {
            boolean opening = Space.fitsIn(state.bits(key), state.pins(lock));
            int rule = opening ? layout.neverOf(lock) : layout.mustOf(lock);
            return (rule >> key & 1) != 0;
        }

        /** The pattern of a LOCK, were it pinned by the plan. */
        private int lawfulPins(int lock) {
            int must = layout.mustOf(lock);
            return must == 0 ? state.pins(lock) : pinsFor(must);
        }

        private boolean isStray(int key, int lock) {
            return (layout.neverOf(lock) >> key & 1) != 0 && Space.fitsIn(state.bits(key), lawfulPins(lock));
        }

        /** Of the KEYS and LOCKS where it is so what 0: how many, 1: the first KEY, 2: its first LOCK. */
        int tellPairs(int what, boolean stray) {
            int count = 0;
            int firstKey = NONE;
            int firstLock = NONE;
            for (int k = 0; k < layout.keys; k++) {
                for (int l = 0; l < layout.locks; l++) {
                    if (stray ? isStray(k, l) : isBroken(k, l)) {
                        firstKey = count == 0 ? k : firstKey;
                        firstLock = count == 0 ? l : firstLock;
                        count++;
                    }
                }
            }
            switch (what) {
                case 0:
                    return count;
                case 1:
                    return firstKey;
                case 2:
                    return firstLock;
                default:
                    return NONE;
            }
        }

        /** RECUT of a KEY; no BITTING if there is none. */
        int keepingCut(int key) {
            gatherBars(key);
            int bits = space.least();
            for (int i = 0; i < MOST_BITTINGS && bits != 0; i++) {
                if (!isBarred(bits)) {
                    return bits;
                }
                bits = space.after(bits);
            }
            return 0;
        }

        private boolean isBarred(int bits) {
            for (int i = 0; i < barCount && i < MOST_BARS; i++) {
                if (Space.fitsIn(bits, bars[i])) {
                    return true;
                }
            }
            return false;
        }

        /** For each KEY that never may OPEN a LOCK: the BITTINGS of one KEY by which it would be STRAY there. */
        private void gatherBars(int key) {
            barCount = 0;
            for (int l = 0; l < layout.locks; l++) {
                for (int k = 0; k < layout.keys; k++) {
                    if ((layout.neverOf(l) >> k & 1) != 0) {
                        addBar(k == key ? lawfulPins(l) : lettingIn(k, l, key));
                    }
                }
            }
        }

        private void addBar(int pattern) {
            if (pattern != 0 && barCount >= 0 && barCount < MOST_BARS) {
                bars[barCount] = pattern;
                barCount++;
            }
        }

        /** The pattern of how a second KEY can be cut so that the LOCK, pinned by the plan, lets the first one in. */
        private int lettingIn(int key, int lock, int second) {
            if ((layout.mustOf(lock) >> second & 1) == 0) {
                return Space.fitsIn(state.bits(key), lawfulPins(lock)) ? space.everything() : 0;
            }
            int lacking = state.bits(key) & ~pinsFor(layout.mustOf(lock) & ~(1 << second));
            return lacking | space.everythingBut(lacking);
        }

        /** LEFT OVER of a KEY. */
        int stillOpened(int key) {
            int locks = 0;
            for (int l = 0; l < layout.locks; l++) {
                int others = layout.mustOf(l) & ~(1 << key);
                if (others != 0 && Space.fitsIn(state.bits(key), pinsFor(others))) {
                    locks |= 1 << l;
                }
            }
            return locks;
        }
    }

    /** What is TRIED, and the TIME. */
    private static final class Tries {
        private static final int MOST_TRIED = 30;
        private static final int MOST_LATER = 1000;
        private static final int MOST_TIME = 100000;

        private final int[] locks;
        private final boolean[] opened;
        private final int[] toldAt;
        private final int[] untoldAt;
        int count;
        int time;

        Tries() {
            locks = new int[MOST_TRIED];
            opened = new boolean[MOST_TRIED];
            toldAt = new int[MOST_TRIED];
            untoldAt = new int[MOST_TRIED];
            count = 0;
            time = 0;
        }

        void forget() {
            count = 0;
        }

        int tell(int lock, boolean is) {
            if (count < 0 || count >= MOST_TRIED) {
                return NONE;
            }
            locks[count] = lock;
            opened[count] = is;
            toldAt[count] = time;
            untoldAt[count] = NONE;
            count++;
            return count - 1;
        }

        boolean takeBack(int i) {
            if (i < 0 || i >= count || i >= MOST_TRIED || untoldAt[i] != NONE) {
                return false;
            }
            untoldAt[i] = time;
            return true;
        }

        int goOn(int by) {
            if (by < 0 || by > MOST_LATER || time + by > MOST_TIME) {
                return NONE;
            }
            time += by;
            return time;
        }

        /** As known at k: LOCKS that it OPENS, or that it does not, as bits. */
        int knownAt(int k, boolean is) {
            int found = 0;
            for (int i = 0; i < count && i < MOST_TRIED; i++) {
                boolean untold = untoldAt[i] != NONE && untoldAt[i] <= k;
                if (opened[i] == is && toldAt[i] <= k && !untold) {
                    found |= 1 << locks[i];
                }
            }
            return found;
        }
    }
}
