import java.util.Arrays;

/** A look-aside cache beside a store with copies abroad; README.md tells how it is used. */
public final class LookAsideCache {
    public static final int BAD = -1, NOT = -2, FULL = -3, WAITS = -4, STATE = -5, LEASED = -6;

    private static final int NOTHING_THERE = -11, NO_SUCH_PLACE = -13, SIZE_BELOW_0 = -14;
    private static final int FAULT_BASE = -100;

    private static final int REGIONS = 3, GROUPS = 6, CLIENTS = 6, KEYS = 10, VALUES = 1000;
    private static final int HOME = 0;
    private static final int MOST_WRITES = 60;
    private static final int MOST_TICKS = 50;
    private static final int POLICIES = 4;
    private static final int OLD_BASE = 1000;

    private static final int SETTINGS = 7;
    private static final int ROOM = 0, LIFE = 1, KEEP = 2, TERM = 3, HOLD = 4, POLICY = 5, LEASES = 6;
    private static final int[] SETTING_FIRST = {4, 50, 5, 6, 2, 0, 1};
    private static final int[] SETTING_LEAST = {1, 1, 0, 1, 0, 0, 0};
    private static final int[] SETTING_MOST = {8, 99, 20, 20, 20, 3, 1};

    private static final int LEDS = 10;
    private static final int HITS_LED = 0, LEASED_LED = 1, WAITS_LED = 2, OLD_LED = 3, FILLS_LED = 4;
    private static final int REFUSED_LED = 5, NEIGHBOUR_LED = 6, GAVE_WAY_LED = 7;
    private static final int ENTRY_DELETED_LED = 8, LEASE_DELETED_LED = 9;

    private static final int MOST_TAPE = 160;
    private static final int MOST_ACTS = 5;
    private static final int MOST_ORDER = 8;
    private static final int MOST_PLANNERS = 3;
    private static final int MOST_FIGURES = 3;
    private static final int ACT_KINDS = 8;
    private static final int GET_ACT = 0, LOOK_ACT = 1, FILL_ACT = 2, WRITE_ACT = 3;
    private static final int APPLY_ACT = 4, TICK_ACT = 5, COLD_ACT = 6, WARM_ACT = 7;

    private static final int SHELVES = 4;
    private static final int MOST_ROW = 40;
    private static final int MOST_RESTORED = 10;
    private static final int KEY_UNIT = 1000;
    private static final int VERSION_UNIT = 1000000;

    private static final int ROUNDS = 6;
    private static final int MOST_UNDONE = 30;

    private final World world;
    private final World thought;
    private final History history;
    private final Storm storming;
    private final Orders ordering;
    private final Tape tape;
    private final Plan[] plans;
    private final long[][] rows;
    private final int[] rowSizes;
    private Plan sparePlan;
    private int[] kept;

    public LookAsideCache() {
        world = new World();
        thought = new World();
        history = new History();
        history.begin(world);
        storming = new Storm(thought);
        ordering = new Orders(thought);
        tape = new Tape();
        plans = new Plan[CLIENTS];
        for (int c = 0; c < CLIENTS; c++) {
            plans[c] = new Plan();
        }
        sparePlan = new Plan();
        rows = new long[SHELVES][MOST_ROW];
        rowSizes = new int[SHELVES];
        Arrays.fill(rowSizes, -1);
        kept = null;
    }

    // ---- acts

    public int get(int client, int key) {
        if (!below(client, CLIENTS) || !below(key, KEYS)) {
            return BAD;
        }
        return noted(world.obtain(client, key));
    }

    public int look(int client) {
        if (!below(client, CLIENTS)) {
            return BAD;
        }
        return noted(world.lookUp(client));
    }

    public int fill(int client) {
        if (!below(client, CLIENTS)) {
            return BAD;
        }
        return noted(world.bringIn(client));
    }

    public int write(int client, int key, int v) {
        if (!below(client, CLIENTS) || !below(key, KEYS) || !below(v, VALUES)) {
            return BAD;
        }
        return noted(world.writeDown(client, key, v));
    }

    public int apply(int region) {
        if (!below(region, REGIONS)) {
            return BAD;
        }
        return noted(world.applyNext(region));
    }

    public int tick(int n) {
        if (n < 1 || n > MOST_TICKS) {
            return BAD;
        }
        return noted(world.pass(n));
    }

    public int cold(int group, int v) {
        if (!below(group, GROUPS) || !below(v, 2)) {
            return BAD;
        }
        return noted(world.turn(group, v));
    }

    public int go(int client, int group) {
        if (!below(client, CLIENTS) || !below(group, GROUPS)) {
            return BAD;
        }
        return noted(world.move(client, group));
    }

    public int set(int what, int v) {
        if (!below(what, SETTINGS) || v < SETTING_LEAST[what] || v > SETTING_MOST[what]) {
            return BAD;
        }
        return noted(world.change(what, v));
    }

    public int next() {
        return noted(world.passToFirstDue());
    }

    public int undo() {
        return history.stepBack(world) ? history.behind : STATE;
    }

    public int redo() {
        return history.stepOn(world) ? history.ahead : STATE;
    }

    // ---- what there is

    public int setting(int what) {
        return below(what, SETTINGS) ? world.settingOf(what) : BAD;
    }

    public int entry(int group, int key, int what) {
        if (!below(group, GROUPS) || !below(key, KEYS) || !below(what, World.ENTRY_PARTS)) {
            return BAD;
        }
        return world.hasEntry(group, key) ? world.entryPart(group, key, what) : NOT;
    }

    public int beside(int group, int key, int what) {
        if (!below(group, GROUPS) || !below(key, KEYS) || !below(what, World.BESIDE_PARTS)) {
            return BAD;
        }
        return world.besidePart(group, key, what);
    }

    public int client(int client, int what) {
        if (!below(client, CLIENTS) || !below(what, World.CLIENT_PARTS)) {
            return BAD;
        }
        return world.clientPart(client, what);
    }

    public int store(int region, int key, int what) {
        if (!below(region, REGIONS) || !below(key, KEYS) || !below(what, 3)) {
            return BAD;
        }
        if (what == 2) {
            return world.markerOf(region, key) > 0 ? world.markerOf(region, key) : NOT;
        }
        int version = world.storeVersion(region, key);
        return what == 0 ? world.valueOf(version) : version;
    }

    public int region(int region, int what) {
        if (!below(region, REGIONS) || !below(what, 3)) {
            return BAD;
        }
        if (what == 0) {
            return world.placeOf(region);
        }
        return what == 1 ? world.writes() - world.placeOf(region) : world.loadsOf(region);
    }

    public int within(int key, int n, int what) {
        if (!below(key, KEYS) || n < 0 || n > world.writes() || !below(what, 2)) {
            return BAD;
        }
        int version = world.lastWriteUpTo(key, n);
        return what == 0 ? world.valueOf(version) : version;
    }

    public int least(int group, int policy) {
        if (!below(group, GROUPS) || !below(policy, POLICIES)) {
            return BAD;
        }
        return world.leastKey(group, policy);
    }

    public int outdated(int group) {
        return below(group, GROUPS) ? world.outdatedKeys(group) : BAD;
    }

    public int lag(int group, int key) {
        if (!below(group, GROUPS) || !below(key, KEYS)) {
            return BAD;
        }
        if (!world.hasEntry(group, key)) {
            return NOT;
        }
        return world.writesBehind(key, world.entryPart(group, key, World.VERSION));
    }

    public int own(int client, int key) {
        if (!below(client, CLIENTS) || !below(key, KEYS)) {
            return BAD;
        }
        int group = world.groupOf(client);
        if (!world.hasEntry(group, key)) {
            return NOT;
        }
        return world.entryPart(group, key, World.VERSION) >= world.lastWriteBy(client, key) ? 1 : 0;
    }

    public int due(int k, int what) {
        if (k < 0 || !below(what, 3)) {
            return BAD;
        }
        int code = world.dueCode(k);
        if (code < 0) {
            return NOT;
        }
        if (what == 0) {
            return World.endOfDue(code);
        }
        return what == 1 ? World.kindOfDue(code) : World.spotOfDue(code);
    }

    public int hottest(int k) {
        return below(k, KEYS) ? world.hotKey(k) : BAD;
    }

    public int led(int what) {
        return below(what, LEDS) ? world.ledOf(what) : BAD;
    }

    public int storm(int clients, int key, int takes, int what) {
        boolean told = clients > 0 && clients < 1 << CLIENTS;
        if (!told || !below(key, KEYS) || !below(takes, 2) || !below(what, 4)) {
            return BAD;
        }
        thought.copyFrom(world.cell);
        storming.run(clients, key, takes == 1);
        return storming.outcome(what);
    }

    public int settled(int what) {
        if (!below(what, 4)) {
            return BAD;
        }
        thought.copyFrom(world.cell);
        int applied = thought.applyAll();
        switch (what) {
            case 0:
                return applied;
            case 1:
                return thought.countThere(World.END);
            case 2:
                return thought.countThere(World.OLD_END);
            default:
                return thought.outdatedGroups();
        }
    }

    public int tried(int shelf, int group, int policy) {
        if (!below(shelf, SHELVES) || !below(group, GROUPS) || !below(policy, POLICIES)) {
            return BAD;
        }
        return rowSizes[shelf] < 0 ? NOTHING_THERE : hitsTried(shelf, group, policy);
    }

    public int best(int shelf, int group) {
        if (!below(shelf, SHELVES) || !below(group, GROUPS)) {
            return BAD;
        }
        if (rowSizes[shelf] < 0) {
            return NOTHING_THERE;
        }
        int bestPolicy = 0;
        int most = -1;
        for (int policy = 0; policy < POLICIES; policy++) {
            int hits = hitsTried(shelf, group, policy);
            if (hits > most) {
                most = hits;
                bestPolicy = policy;
            }
        }
        return bestPolicy;
    }

    public int foreseen(int shelf, int group) {
        if (!below(shelf, SHELVES) || !below(group, GROUPS)) {
            return BAD;
        }
        return rowSizes[shelf] < 0 ? NOTHING_THERE : hitsForeseen(rows[shelf], keysAhead(shelf), group);
    }

    // ---- plans

    public int feed(int letter) {
        if (!below(letter, 256)) {
            return BAD;
        }
        return tape.append(letter) ? tape.length : FULL;
    }

    public int plan(int client) {
        if (!below(client, CLIENTS)) {
            return BAD;
        }
        int answer = tape.readInto(sparePlan);
        tape.length = 0;
        if (answer > 0) {
            Plan former = plans[client];
            plans[client] = sparePlan;
            sparePlan = former;
        }
        return answer;
    }

    public int orders(int clients, int key, int what) {
        if (!arePlanners(clients) || !below(key, KEYS) || !below(what, 5)) {
            return BAD;
        }
        if (actsOf(clients) > MOST_ORDER) {
            return STATE;
        }
        ordering.goThrough(world, plans, clients, key);
        return ordering.outcome(what);
    }

    public int witness(int clients, int k) {
        if (!arePlanners(clients) || k < 0) {
            return BAD;
        }
        if (actsOf(clients) > MOST_ORDER) {
            return STATE;
        }
        ordering.goThrough(world, plans, clients, 0);
        return ordering.witnessAt(k);
    }

    // ---- shelves, the image

    public int row(int shelf, int n) {
        if (!below(shelf, SHELVES) || n > MOST_ROW) {
            return BAD;
        }
        if (n < 0) {
            return SIZE_BELOW_0;
        }
        Arrays.fill(rows[shelf], 0L);
        rowSizes[shelf] = n;
        return 1;
    }

    public int put(int shelf, int i, long v) {
        int refusal = placeRefusal(shelf, i);
        if (refusal < 0) {
            return refusal;
        }
        rows[shelf][i] = v;
        return 1;
    }

    public long element(int shelf, int i) {
        return placeRefusal(shelf, i) < 0 ? Long.MIN_VALUE : rows[shelf][i];
    }

    public int save(int shelf, int i, int group) {
        if (!below(shelf, SHELVES) || !below(group, GROUPS)) {
            return BAD;
        }
        if (rowSizes[shelf] < 0) {
            return NOTHING_THERE;
        }
        int entries = Integer.bitCount(world.entryKeys(group));
        if (i < 0 || i > rowSizes[shelf] - entries) {
            return NO_SUCH_PLACE;
        }
        int place = i;
        for (int key = 0; key < KEYS; key++) {
            if (world.hasEntry(group, key)) {
                rows[shelf][place] = savedLong(group, key);
                place++;
            }
        }
        return entries;
    }

    public int restore(int shelf, int i, int n, int group) {
        if (!below(shelf, SHELVES) || n < 0 || n > MOST_RESTORED || !below(group, GROUPS)) {
            return BAD;
        }
        if (rowSizes[shelf] < 0) {
            return NOTHING_THERE;
        }
        if (i < 0 || i > rowSizes[shelf] - n) {
            return NO_SUCH_PLACE;
        }
        int done = 0;
        while (done < n && restoreOne(rows[shelf][i + done], group)) {
            done++;
        }
        return noted(done);
    }

    public int image() {
        if (kept == null) {
            kept = new int[World.SIZE];
        }
        world.copyTo(kept);
        return world.now();
    }

    public int back() {
        if (kept == null) {
            return STATE;
        }
        world.copyFrom(kept);
        history.begin(world);
        return world.now();
    }

    public int count(int what) {
        switch (what) {
            case 0:
                return world.writes();
            case 1:
                return world.countThere(World.END);
            case 2:
                return world.countThere(World.LEASE_END);
            case 3:
                return world.markers();
            case 4:
                return world.hands();
            case 5:
                return tape.length;
            case 6:
                return plansThere();
            case 7:
                return world.now();
            case 8:
                return history.behind;
            default:
                return BAD;
        }
    }

    // ---- helpers of the face

    private static boolean below(int number, int bound) {
        return number >= 0 && number < bound;
    }

    /** WAITS and LEASED are answers of an act that was done; all else below 0 is a refusal. */
    private int noted(int answer) {
        if (answer >= 0 || answer == WAITS || answer == LEASED) {
            history.note(world);
        }
        return answer;
    }

    private int placeRefusal(int shelf, int i) {
        if (!below(shelf, SHELVES)) {
            return BAD;
        }
        if (rowSizes[shelf] < 0) {
            return NOTHING_THERE;
        }
        return below(i, rowSizes[shelf]) ? 0 : NO_SUCH_PLACE;
    }

    private int keysAhead(int shelf) {
        int n = 0;
        while (n < rowSizes[shelf] && rows[shelf][n] >= 0 && rows[shelf][n] < KEYS) {
            n++;
        }
        return n;
    }

    private int hitsTried(int shelf, int group, int policy) {
        thought.copyFrom(world.cell);
        int length = keysAhead(shelf);
        int hits = 0;
        for (int i = 0; i < length; i++) {
            thought.pass(1);
            if (thought.tryKey(group, (int) rows[shelf][i], policy)) {
                hits++;
            }
        }
        return hits;
    }

    /** Letting go what is wanted again last is never worse than any other choice (Belady). */
    private int hitsForeseen(long[] row, int length, int group) {
        int present = world.entryKeys(group);
        int room = world.settingOf(ROOM);
        int hits = 0;
        for (int i = 0; i < length; i++) {
            int bit = 1 << (int) row[i];
            if ((present & bit) != 0) {
                hits++;
                continue;
            }
            for (int left = Integer.bitCount(present); left >= room; left--) {
                present &= ~wantedLast(row, i + 1, length, present);
            }
            present |= bit;
        }
        return hits;
    }

    /** A bit: keys drop out as they are met, and one that is left when no more may drop is wanted last. */
    private static int wantedLast(long[] row, int from, int length, int present) {
        int unmet = present;
        for (int i = from; i < length && Integer.bitCount(unmet) > 1; i++) {
            unmet &= ~(1 << (int) row[i]);
        }
        return unmet & -unmet;
    }

    private boolean arePlanners(int clients) {
        if (clients <= 0 || clients >= 1 << CLIENTS || Integer.bitCount(clients) > MOST_PLANNERS) {
            return false;
        }
        for (int c = 0; c < CLIENTS; c++) {
            if ((clients >> c & 1) == 1 && plans[c].size == 0) {
                return false;
            }
        }
        return true;
    }

    private int actsOf(int clients) {
        int acts = 0;
        for (int c = 0; c < CLIENTS; c++) {
            if ((clients >> c & 1) == 1) {
                acts += plans[c].size;
            }
        }
        return acts;
    }

    private int plansThere() {
        int n = 0;
        for (int c = 0; c < CLIENTS; c++) {
            if (plans[c].size > 0) {
                n++;
            }
        }
        return n;
    }

    private long savedLong(int group, int key) {
        long version = world.entryPart(group, key, World.VERSION);
        return version * VERSION_UNIT + key * KEY_UNIT + world.entryPart(group, key, World.VALUE);
    }

    private boolean restoreOne(long saved, int group) {
        if (saved < 0) {
            return false;
        }
        long version = saved / VERSION_UNIT;
        int key = (int) (saved / KEY_UNIT % KEY_UNIT);
        int value = (int) (saved % KEY_UNIT);
        if (key >= KEYS || version > world.writes() || !world.wasWritten((int) version, key, value)) {
            return false;
        }
        world.install(group, key, value, (int) version, world.settingOf(POLICY));
        return true;
    }

    /** All that an image keeps, in one row of ints, so that a copy of it is cheap and whole. */
    private static final class World {
        static final int ENTRY_PARTS = 6, BESIDE_PARTS = 6, CLIENT_PARTS = 7;

        static final int VALUE = 0, VERSION = 1, BORN = 2, USED = 3, HITS = 4, END = 5;
        static final int OLD_VALUE = 6, OLD_END = 7;
        static final int LEASE_CLIENT = 8, LEASE_TOKEN = 9, LEASE_END = 10, HOLD_END = 11;
        static final int SPOT_CELLS = 12;

        private static final int[] POLICY_PART = {USED, HITS, BORN, VERSION};
        private static final int[] DUE_END = {END, OLD_END, LEASE_END, HOLD_END};
        private static final int[] BESIDE_END = {OLD_END, OLD_END, LEASE_END, LEASE_END, LEASE_END, HOLD_END};
        private static final int SPOTS = GROUPS * KEYS;
        private static final int DUE_KINDS = 4;

        private static final int GROUP_AT = 0, HAND_KEY = 1, HAND_TOKEN = 2, HAND_LOOKED = 3;
        private static final int HAND_VALUE = 4, HAND_VERSION = 5, HAND_FROM = 6, HAND_THERE = 7;
        private static final int CLIENT_CELLS = 8;

        private static final int WRITE_KEY = 0, WRITE_VALUE = 1, WRITE_CLIENT = 2, WRITE_CELLS = 3;

        private static final int NOW_CELL = 0;
        private static final int WRITES_CELL = 1;
        private static final int TOKEN_CELL = 2;
        private static final int SETTING_CELLS = 3;
        private static final int LED_CELLS = SETTING_CELLS + SETTINGS;
        private static final int EVER_CELLS = LED_CELLS + LEDS;
        private static final int PLACE_CELLS = EVER_CELLS + KEYS;
        private static final int LOADS_CELLS = PLACE_CELLS + REGIONS;
        private static final int COLD_CELLS = LOADS_CELLS + REGIONS;
        private static final int MARKER_CELLS = COLD_CELLS + GROUPS;
        private static final int APPLIED_CELLS = MARKER_CELLS + REGIONS * KEYS;
        private static final int LAST_CELLS = APPLIED_CELLS + REGIONS * KEYS;
        private static final int JOURNAL_CELLS = LAST_CELLS + KEYS;
        private static final int CLIENT_CELLS_FROM = JOURNAL_CELLS + MOST_WRITES * WRITE_CELLS;
        private static final int SPOTS_FROM = CLIENT_CELLS_FROM + CLIENTS * CLIENT_CELLS;
        static final int SIZE = SPOTS_FROM + SPOTS * SPOT_CELLS;

        final int[] cell;

        World() {
            cell = new int[SIZE];
            System.arraycopy(SETTING_FIRST, 0, cell, SETTING_CELLS, SETTINGS);
            for (int c = 0; c < CLIENTS; c++) {
                cell[handAt(c) + GROUP_AT] = c;
            }
        }

        void copyFrom(int[] other) {
            System.arraycopy(other, 0, cell, 0, SIZE);
        }

        void copyTo(int[] other) {
            System.arraycopy(cell, 0, other, 0, SIZE);
        }

        // -- where things stand

        private static int spotAt(int group, int key) {
            return SPOTS_FROM + (group * KEYS + key) * SPOT_CELLS;
        }

        private static int handAt(int client) {
            return CLIENT_CELLS_FROM + client * CLIENT_CELLS;
        }

        private static int writeAt(int version) {
            return JOURNAL_CELLS + (version - 1) * WRITE_CELLS;
        }

        /** An END of 0 is never above NOW: it stands for what isn't there, too. */
        private boolean isAhead(int endCell) {
            return cell[endCell] > cell[NOW_CELL];
        }

        // -- what there is

        int now() {
            return cell[NOW_CELL];
        }

        int writes() {
            return cell[WRITES_CELL];
        }

        int settingOf(int what) {
            return cell[SETTING_CELLS + what];
        }

        int ledOf(int what) {
            return cell[LED_CELLS + what];
        }

        int placeOf(int region) {
            return cell[PLACE_CELLS + region];
        }

        int loadsOf(int region) {
            return cell[LOADS_CELLS + region];
        }

        int allLoads() {
            int sum = 0;
            for (int r = 0; r < REGIONS; r++) {
                sum += loadsOf(r);
            }
            return sum;
        }

        int markerOf(int region, int key) {
            return cell[MARKER_CELLS + region * KEYS + key];
        }

        int markers() {
            int n = 0;
            for (int i = 0; i < REGIONS * KEYS; i++) {
                if (cell[MARKER_CELLS + i] > 0) {
                    n++;
                }
            }
            return n;
        }

        int groupOf(int client) {
            return cell[handAt(client) + GROUP_AT];
        }

        boolean hasHandFor(int client, int key) {
            int hand = handAt(client);
            return cell[hand + HAND_THERE] == 1 && cell[hand + HAND_KEY] == key;
        }

        int hands() {
            int n = 0;
            for (int c = 0; c < CLIENTS; c++) {
                n += cell[handAt(c) + HAND_THERE];
            }
            return n;
        }

        int clientPart(int client, int what) {
            int hand = handAt(client);
            boolean needsHand = what != GROUP_AT;
            boolean needsLooked = what >= HAND_VALUE;
            if (needsHand && cell[hand + HAND_THERE] == 0 || needsLooked && cell[hand + HAND_LOOKED] == 0) {
                return NOT;
            }
            return cell[hand + what];
        }

        boolean hasEntry(int group, int key) {
            return isAhead(spotAt(group, key) + END);
        }

        int entryPart(int group, int key, int part) {
            return cell[spotAt(group, key) + part];
        }

        int besidePart(int group, int key, int what) {
            int spot = spotAt(group, key);
            return isAhead(spot + BESIDE_END[what]) ? cell[spot + ENTRY_PARTS + what] : NOT;
        }

        int entryKeys(int group) {
            int bits = 0;
            for (int key = 0; key < KEYS; key++) {
                if (isAhead(spotAt(group, key) + END)) {
                    bits |= 1 << key;
                }
            }
            return bits;
        }

        int countThere(int endPart) {
            int n = 0;
            for (int i = 0; i < SPOTS; i++) {
                if (isAhead(SPOTS_FROM + i * SPOT_CELLS + endPart)) {
                    n++;
                }
            }
            return n;
        }

        int valueOf(int version) {
            return version == 0 ? 0 : cell[writeAt(version) + WRITE_VALUE];
        }

        boolean wasWritten(int version, int key, int value) {
            if (version == 0) {
                return value == 0;
            }
            int write = writeAt(version);
            return cell[write + WRITE_KEY] == key && cell[write + WRITE_VALUE] == value;
        }

        /** HOME's store runs ahead of HOME's place in the journal; the others' don't. */
        int storeVersion(int region, int key) {
            return cell[region == HOME ? LAST_CELLS + key : APPLIED_CELLS + region * KEYS + key];
        }

        int lastWriteUpTo(int key, int n) {
            int version = n;
            while (version > 0 && cell[writeAt(version) + WRITE_KEY] != key) {
                version--;
            }
            return version;
        }

        int lastWriteBy(int client, int key) {
            int version = writes();
            while (version > 0 && !isWriteBy(version, client, key)) {
                version--;
            }
            return version;
        }

        private boolean isWriteBy(int version, int client, int key) {
            int write = writeAt(version);
            return cell[write + WRITE_KEY] == key && cell[write + WRITE_CLIENT] == client;
        }

        int writesBehind(int key, int version) {
            int n = 0;
            for (int later = version + 1; later <= writes(); later++) {
                if (cell[writeAt(later) + WRITE_KEY] == key) {
                    n++;
                }
            }
            return n;
        }

        int leastKey(int group, int policy) {
            int part = POLICY_PART[policy];
            int leastKey = NOT;
            int leastPart = 0;
            for (int key = 0; key < KEYS; key++) {
                int spot = spotAt(group, key);
                if (isAhead(spot + END) && (leastKey == NOT || cell[spot + part] < leastPart)) {
                    leastKey = key;
                    leastPart = cell[spot + part];
                }
            }
            return leastKey;
        }

        /** Asked behind each of the orders: hence the way out, and steps from spot to spot in place of calls. */
        int outdatedKeys(int group) {
            if (placeOf(group / 2) == 0) {
                return 0;
            }
            int applied = APPLIED_CELLS + group / 2 * KEYS;
            int spot = spotAt(group, 0);
            int bits = 0;
            for (int key = 0; key < KEYS; key++) {
                if (cell[spot + VERSION] < cell[applied + key] && isAhead(spot + END)) {
                    bits |= 1 << key;
                }
                spot += SPOT_CELLS;
            }
            return bits;
        }

        int outdatedGroups() {
            int n = 0;
            for (int g = 0; g < GROUPS; g++) {
                if (outdatedKeys(g) != 0) {
                    n++;
                }
            }
            return n;
        }

        int hotKey(int k) {
            for (int key = 0; key < KEYS; key++) {
                if (hotterThan(key) == k) {
                    return key;
                }
            }
            return NOT;
        }

        private int hotterThan(int key) {
            int hits = cell[EVER_CELLS + key];
            int n = 0;
            for (int other = 0; other < KEYS; other++) {
                int otherHits = cell[EVER_CELLS + other];
                if (otherHits > hits || otherHits == hits && other < key) {
                    n++;
                }
            }
            return n;
        }

        // -- dues: one number each, so that the order of the numbers is the order of the dues

        int dueCode(int k) {
            int code = -1;
            for (int i = 0; i <= k && i < SPOTS * DUE_KINDS; i++) {
                code = dueCodeBehind(code);
                if (code < 0) {
                    return NOT;
                }
            }
            return k < SPOTS * DUE_KINDS ? code : NOT;
        }

        private int dueCodeBehind(int former) {
            int first = NOT;
            for (int spot = 0; spot < SPOTS; spot++) {
                for (int kind = 0; kind < DUE_KINDS; kind++) {
                    int endCell = SPOTS_FROM + spot * SPOT_CELLS + DUE_END[kind];
                    int code = (cell[endCell] * DUE_KINDS + kind) * SPOTS + spot;
                    if (isAhead(endCell) && code > former && (first == NOT || code < first)) {
                        first = code;
                    }
                }
            }
            return first;
        }

        static int endOfDue(int code) {
            return code / (SPOTS * DUE_KINDS);
        }

        static int kindOfDue(int code) {
            return code / SPOTS % DUE_KINDS;
        }

        static int spotOfDue(int code) {
            int spot = code % SPOTS;
            return spot / KEYS * 100 + spot % KEYS;
        }

        // -- acts: they hold by themselves what the document's part 2 asks, in thought, too

        int obtain(int client, int key) {
            int spot = spotAt(groupOf(client), key);
            if (isAhead(spot + END)) {
                useEntry(spot);
                cell[EVER_CELLS + key]++;
                cell[LED_CELLS + HITS_LED]++;
                return cell[spot + VALUE];
            }
            boolean leases = settingOf(LEASES) == 1;
            if (leases && isAhead(spot + LEASE_END)) {
                return cell[spot + LEASE_CLIENT] == client ? LEASED : answerBesideLease(spot);
            }
            int token = leases ? giveLease(spot, client) : 0;
            takeHand(client, key, token);
            cell[LED_CELLS + LEASED_LED]++;
            return LEASED;
        }

        private void useEntry(int spot) {
            cell[spot + USED] = now();
            cell[spot + HITS]++;
        }

        private int answerBesideLease(int spot) {
            if (isAhead(spot + OLD_END)) {
                cell[LED_CELLS + OLD_LED]++;
                return OLD_BASE + cell[spot + OLD_VALUE];
            }
            cell[LED_CELLS + WAITS_LED]++;
            return WAITS;
        }

        private int giveLease(int spot, int client) {
            cell[TOKEN_CELL]++;
            cell[spot + LEASE_CLIENT] = client;
            cell[spot + LEASE_TOKEN] = cell[TOKEN_CELL];
            cell[spot + LEASE_END] = now() + settingOf(TERM);
            return cell[TOKEN_CELL];
        }

        private void takeHand(int client, int key, int token) {
            int hand = handAt(client);
            cell[hand + HAND_THERE] = 1;
            cell[hand + HAND_KEY] = key;
            cell[hand + HAND_TOKEN] = token;
            cell[hand + HAND_LOOKED] = 0;
        }

        private void endHand(int client) {
            int hand = handAt(client);
            cell[hand + HAND_THERE] = 0;
            cell[hand + HAND_LOOKED] = 0;
        }

        int lookUp(int client) {
            int hand = handAt(client);
            if (cell[hand + HAND_THERE] == 0) {
                return STATE;
            }
            int group = cell[hand + GROUP_AT];
            int key = cell[hand + HAND_KEY];
            if (isWarmBeside(group) && hasEntry(group ^ 1, key)) {
                cell[LED_CELLS + NEIGHBOUR_LED]++;
                int spot = spotAt(group ^ 1, key);
                return keepInHand(hand, cell[spot + VALUE], cell[spot + VERSION], 1);
            }
            int region = markerOf(group / 2, key) > 0 ? HOME : group / 2;
            cell[LOADS_CELLS + region]++;
            int version = storeVersion(region, key);
            return keepInHand(hand, valueOf(version), version, 0);
        }

        private boolean isWarmBeside(int group) {
            return cell[COLD_CELLS + group] == 1 && cell[COLD_CELLS + (group ^ 1)] == 0;
        }

        private int keepInHand(int hand, int value, int version, int from) {
            cell[hand + HAND_LOOKED] = 1;
            cell[hand + HAND_VALUE] = value;
            cell[hand + HAND_VERSION] = version;
            cell[hand + HAND_FROM] = from;
            return value;
        }

        int bringIn(int client) {
            int hand = handAt(client);
            if (cell[hand + HAND_LOOKED] == 0) {
                return STATE;
            }
            int key = cell[hand + HAND_KEY];
            int spot = spotAt(cell[hand + GROUP_AT], key);
            endHand(client);
            boolean heldOff = cell[hand + HAND_FROM] == 1 && isAhead(spot + HOLD_END);
            if (heldOff || isVoid(spot, cell[hand + HAND_TOKEN])) {
                cell[LED_CELLS + REFUSED_LED]++;
                return 0;
            }
            install(cell[hand + GROUP_AT], key, cell[hand + HAND_VALUE], cell[hand + HAND_VERSION], settingOf(POLICY));
            return 1;
        }

        private boolean isVoid(int spot, int token) {
            boolean held = isAhead(spot + LEASE_END) && cell[spot + LEASE_TOKEN] == token;
            return settingOf(LEASES) == 1 && !held;
        }

        void install(int group, int key, int value, int version, int policy) {
            int spot = spotAt(group, key);
            cell[spot + LEASE_END] = 0;
            cell[spot + OLD_END] = 0;
            cell[spot + END] = 0;
            for (int left = Integer.bitCount(entryKeys(group)); left >= settingOf(ROOM); left--) {
                int leaving = leastKey(group, policy);
                if (leaving >= 0) {
                    cell[spotAt(group, leaving) + END] = 0;
                    cell[LED_CELLS + GAVE_WAY_LED]++;
                }
            }
            cell[spot + VALUE] = value;
            cell[spot + VERSION] = version;
            cell[spot + BORN] = now();
            cell[spot + USED] = now();
            cell[spot + HITS] = 0;
            cell[spot + END] = now() + settingOf(LIFE);
            cell[LED_CELLS + FILLS_LED]++;
        }

        int writeDown(int client, int key, int value) {
            if (writes() >= MOST_WRITES) {
                return FULL;
            }
            int version = writes() + 1;
            int write = writeAt(version);
            cell[write + WRITE_KEY] = key;
            cell[write + WRITE_VALUE] = value;
            cell[write + WRITE_CLIENT] = client;
            cell[WRITES_CELL] = version;
            cell[LAST_CELLS + key] = version;
            int group = groupOf(client);
            if (group / 2 != HOME) {
                cell[MARKER_CELLS + group / 2 * KEYS + key] = version;
            }
            strike(group, key);
            return version;
        }

        /** What the document calls DELETED. */
        private void strike(int group, int key) {
            int spot = spotAt(group, key);
            if (isAhead(spot + END)) {
                cell[spot + END] = 0;
                cell[spot + OLD_VALUE] = cell[spot + VALUE];
                cell[spot + OLD_END] = endIn(settingOf(KEEP));
                cell[LED_CELLS + ENTRY_DELETED_LED]++;
            }
            if (isAhead(spot + LEASE_END)) {
                cell[spot + LEASE_END] = 0;
                cell[LED_CELLS + LEASE_DELETED_LED]++;
            }
            if (cell[COLD_CELLS + group] == 1) {
                cell[spot + HOLD_END] = endIn(settingOf(HOLD));
            }
        }

        /** With no ticks to last the END is NOW, which is as good as none. */
        private int endIn(int ticks) {
            return now() + ticks;
        }

        int applyNext(int region) {
            if (placeOf(region) >= writes()) {
                return NOT;
            }
            int version = placeOf(region) + 1;
            int key = cell[writeAt(version) + WRITE_KEY];
            cell[PLACE_CELLS + region] = version;
            cell[APPLIED_CELLS + region * KEYS + key] = version;
            strike(2 * region, key);
            strike(2 * region + 1, key);
            if (markerOf(region, key) <= version) {
                cell[MARKER_CELLS + region * KEYS + key] = 0;
            }
            return version;
        }

        int applyAll() {
            int applied = 0;
            for (int r = 0; r < REGIONS; r++) {
                for (int left = writes() - placeOf(r); left > 0; left--) {
                    applyNext(r);
                    applied++;
                }
            }
            return applied;
        }

        int pass(int ticks) {
            cell[NOW_CELL] += ticks;
            return now();
        }

        int passToFirstDue() {
            int code = dueCodeBehind(-1);
            return code < 0 ? NOT : pass(endOfDue(code) - now());
        }

        int turn(int group, int v) {
            int former = cell[COLD_CELLS + group];
            if (former == v) {
                return former;
            }
            cell[COLD_CELLS + group] = v;
            for (int key = 0; key < KEYS; key++) {
                int spot = spotAt(group, key);
                cell[spot + HOLD_END] = 0;
                if (v == 1) {
                    cell[spot + END] = 0;
                    cell[spot + OLD_END] = 0;
                    cell[spot + LEASE_END] = 0;
                }
            }
            return former;
        }

        /** To go to one's own group is a going as any other: the hand ends there, too. */
        int move(int client, int group) {
            int former = groupOf(client);
            cell[handAt(client) + GROUP_AT] = group;
            endHand(client);
            return former;
        }

        int change(int what, int v) {
            int former = settingOf(what);
            cell[SETTING_CELLS + what] = v;
            return former;
        }

        boolean tryKey(int group, int key, int policy) {
            if (hasEntry(group, key)) {
                useEntry(spotAt(group, key));
                return true;
            }
            int version = storeVersion(group / 2, key);
            install(group, key, valueOf(version), version, policy);
            return false;
        }
    }

    /** The states of the latest acts in a ring; the present one stands in it, too. */
    private static final class History {
        private static final int SLOTS = MOST_UNDONE + 1;

        private final int[][] slots = new int[SLOTS][];
        private int here;
        private int behind;
        private int ahead;

        void begin(World world) {
            behind = 0;
            ahead = 0;
            keepHere(world);
        }

        void note(World world) {
            here = (here + 1) % SLOTS;
            behind = Math.min(behind + 1, MOST_UNDONE);
            ahead = 0;
            keepHere(world);
        }

        /** A slot is made when it is first needed: many objects never need them all. */
        private void keepHere(World world) {
            if (slots[here] == null) {
                slots[here] = new int[World.SIZE];
            }
            world.copyTo(slots[here]);
        }

        boolean stepBack(World world) {
            if (behind == 0) {
                return false;
            }
            behind--;
            ahead++;
            return stepTo((here + SLOTS - 1) % SLOTS, world);
        }

        boolean stepOn(World world) {
            if (ahead == 0) {
                return false;
            }
            ahead--;
            behind++;
            return stepTo((here + 1) % SLOTS, world);
        }

        private boolean stepTo(int slot, World world) {
            here = slot;
            if (slots[slot] == null) {
                return false;
            }
            world.copyFrom(slots[slot]);
            return true;
        }
    }

    /** A storm of gets of one key, done in a world that is only thought of. */
    private static final class Storm {
        private final World world;
        private int rounds;
        private int loads;
        private int served;
        private int fills;

        Storm(World world) {
            this.world = world;
        }

        void run(int clients, int key, boolean takesOld) {
            int loadsAhead = world.allLoads();
            int fillsAhead = world.ledOf(FILLS_LED);
            int waiting = clients;
            rounds = 0;
            while (waiting != 0 && rounds < ROUNDS) {
                waiting = obtainAll(waiting, key, takesOld);
                waiting = fillAll(waiting, lookAll(waiting, key));
                rounds++;
            }
            served = Integer.bitCount(clients) - Integer.bitCount(waiting);
            loads = world.allLoads() - loadsAhead;
            fills = world.ledOf(FILLS_LED) - fillsAhead;
        }

        private int obtainAll(int waiting, int key, boolean takesOld) {
            int left = waiting;
            for (int c = 0; c < CLIENTS; c++) {
                if ((waiting >> c & 1) == 1) {
                    int answer = world.obtain(c, key);
                    if (answer >= 0 && (answer < OLD_BASE || takesOld)) {
                        left &= ~(1 << c);
                    }
                }
            }
            return left;
        }

        private int lookAll(int waiting, int key) {
            int looked = 0;
            for (int c = 0; c < CLIENTS; c++) {
                if ((waiting >> c & 1) == 1 && world.hasHandFor(c, key)) {
                    world.lookUp(c);
                    looked |= 1 << c;
                }
            }
            return looked;
        }

        /** A refused fill serves its client all the same: it has what it looked at. */
        private int fillAll(int waiting, int looked) {
            for (int c = 0; c < CLIENTS; c++) {
                if ((looked >> c & 1) == 1) {
                    world.bringIn(c);
                }
            }
            return waiting & ~looked;
        }

        int outcome(int what) {
            switch (what) {
                case 0:
                    return rounds;
                case 1:
                    return loads;
                case 2:
                    return served;
                default:
                    return fills;
            }
        }
    }

    /** The acts of a client; without acts it stands for no plan. */
    private static final class Plan {
        private final int[] kinds = new int[MOST_ACTS];
        private final int[] firsts = new int[MOST_ACTS];
        private final int[] seconds = new int[MOST_ACTS];
        private int size;

        void add(int kind, int first, int second) {
            if (size < MOST_ACTS) {
                kinds[size] = kind;
                firsts[size] = first;
                seconds[size] = second;
                size++;
            }
        }

        void perform(int i, int client, World world) {
            if (i < 0 || i >= size) {
                return;
            }
            switch (kinds[i]) {
                case GET_ACT:
                    world.obtain(client, firsts[i]);
                    break;
                case LOOK_ACT:
                    world.lookUp(client);
                    break;
                case FILL_ACT:
                    world.bringIn(client);
                    break;
                case WRITE_ACT:
                    world.writeDown(client, firsts[i], seconds[i]);
                    break;
                case APPLY_ACT:
                    world.applyNext(firsts[i]);
                    break;
                case TICK_ACT:
                    world.pass(firsts[i]);
                    break;
                case COLD_ACT:
                    world.turn(firsts[i], 1);
                    break;
                default:
                    world.turn(firsts[i], 0);
                    break;
            }
        }
    }

    /** The tape, and the reading of a plan from it: where reading stops short, the fault stands. */
    private static final class Tape {
        private final int[] signs = new int[MOST_TAPE];
        private int length;
        private int at;

        boolean append(int sign) {
            if (length >= MOST_TAPE) {
                return false;
            }
            signs[length] = sign;
            length++;
            return true;
        }

        int readInto(Plan plan) {
            plan.size = 0;
            at = 0;
            for (int i = 0; i < MOST_ACTS; i++) {
                if (!readAct(plan)) {
                    return FAULT_BASE - at;
                }
                if (at >= length) {
                    return plan.size;
                }
                if (signs[at] != ';') {
                    return FAULT_BASE - at;
                }
                at++;
            }
            return FAULT_BASE - at;
        }

        private boolean readAct(Plan plan) {
            int kind = readWord();
            if (kind < 0) {
                return false;
            }
            int first = 0;
            int second = 0;
            if (kind != LOOK_ACT && kind != FILL_ACT) {
                first = readNumber(kind == TICK_ACT ? 1 : 0, mostOf(kind));
            }
            if (kind == WRITE_ACT && first >= 0) {
                second = readNumber(0, VALUES - 1);
            }
            if (first < 0 || second < 0) {
                return false;
            }
            plan.add(kind, first, second);
            return true;
        }

        private int readWord() {
            int end = at;
            while (end < length && signs[end] >= 'a' && signs[end] <= 'z') {
                end++;
            }
            for (int kind = 0; kind < ACT_KINDS; kind++) {
                if (stands(wordOf(kind), end)) {
                    at = end;
                    return kind;
                }
            }
            return -1;
        }

        private boolean stands(String word, int end) {
            if (word.length() != end - at) {
                return false;
            }
            for (int i = 0; i < word.length(); i++) {
                if (signs[at + i] != word.charAt(i)) {
                    return false;
                }
            }
            return true;
        }

        private int readNumber(int least, int most) {
            if (at >= length || signs[at] != ' ') {
                return -1;
            }
            at++;
            int begin = at;
            int number = 0;
            while (at < length && at - begin < MOST_FIGURES && signs[at] >= '0' && signs[at] <= '9') {
                number = number * 10 + signs[at] - '0';
                at++;
            }
            if (at == begin || number < least || number > most) {
                at = begin;
                return -1;
            }
            return number;
        }

        private static String wordOf(int kind) {
            switch (kind) {
                case GET_ACT:
                    return "get";
                case LOOK_ACT:
                    return "look";
                case FILL_ACT:
                    return "fill";
                case WRITE_ACT:
                    return "write";
                case APPLY_ACT:
                    return "apply";
                case TICK_ACT:
                    return "tick";
                case COLD_ACT:
                    return "cold";
                default:
                    return "warm";
            }
        }

        private static int mostOf(int kind) {
            switch (kind) {
                case APPLY_ACT:
                    return REGIONS - 1;
                case TICK_ACT:
                    return MOST_TICKS;
                case COLD_ACT:
                case WARM_ACT:
                    return GROUPS - 1;
                default:
                    return KEYS - 1;
            }
        }
    }

    /** All orders of the acts of some plans, each gone through in a world that is only thought of. */
    private static final class Orders {
        private static final int MOST_LOOPS = 1000000;

        private final World world;
        private final int[] order = new int[MOST_ORDER];
        private final int[] firstStale = new int[MOST_ORDER];
        private final int[] placeInPlan = new int[CLIENTS];
        private final long[] found = new long[(VALUES + 63) / 64];
        private int length;
        private int total;
        private int stale;
        private int leastLoads;
        private int mostLoads;

        Orders(World world) {
            this.world = world;
        }

        void goThrough(World from, Plan[] plans, int clients, int key) {
            total = 0;
            stale = 0;
            leastLoads = Integer.MAX_VALUE;
            mostLoads = 0;
            Arrays.fill(found, 0L);
            beginOrder(plans, clients);
            boolean more = true;
            for (int n = 0; more && n < MOST_LOOPS; n++) {
                world.copyFrom(from.cell);
                Arrays.fill(placeInPlan, 0);
                for (int i = 0; i < length; i++) {
                    int client = order[i];
                    plans[client].perform(placeInPlan[client], client, world);
                    placeInPlan[client]++;
                }
                weigh(world.allLoads() - from.allLoads(), key);
                more = turnToNextOrder();
            }
        }

        private void beginOrder(Plan[] plans, int clients) {
            length = 0;
            for (int c = 0; c < CLIENTS; c++) {
                int acts = (clients >> c & 1) == 1 ? plans[c].size : 0;
                for (int i = 0; i < acts && length < MOST_ORDER; i++) {
                    order[length] = c;
                    length++;
                }
            }
        }

        private void weigh(int loads, int key) {
            total++;
            leastLoads = Math.min(leastLoads, loads);
            mostLoads = Math.max(mostLoads, loads);
            if (world.outdatedGroups() > 0) {
                if (stale == 0) {
                    System.arraycopy(order, 0, firstStale, 0, length);
                }
                stale++;
            }
            if (world.hasEntry(0, key)) {
                int value = world.entryPart(0, key, World.VALUE);
                found[value / 64] |= 1L << value % 64;
            }
        }

        /** The next row by size: the last rise steps up by the least it can, what is behind it falls back. */
        private boolean turnToNextOrder() {
            int rise = length - 2;
            while (rise >= 0 && order[rise] >= order[rise + 1]) {
                rise--;
            }
            if (rise < 0) {
                return false;
            }
            int higher = length - 1;
            while (higher > rise && order[higher] <= order[rise]) {
                higher--;
            }
            swap(rise, higher);
            for (int i = rise + 1, j = length - 1; i < j; i++, j--) {
                swap(i, j);
            }
            return true;
        }

        private void swap(int i, int j) {
            int kept = order[i];
            order[i] = order[j];
            order[j] = kept;
        }

        int outcome(int what) {
            switch (what) {
                case 0:
                    return total;
                case 1:
                    return stale;
                case 2:
                    return leastLoads;
                case 3:
                    return mostLoads;
                default:
                    return valuesFound();
            }
        }

        private int valuesFound() {
            int n = 0;
            for (int i = 0; i < found.length; i++) {
                n += Long.bitCount(found[i]);
            }
            return n;
        }

        int witnessAt(int k) {
            return stale > 0 && k < length ? firstStale[k] : NOT;
        }
    }
}
