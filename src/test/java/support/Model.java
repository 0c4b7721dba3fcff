import java.util.ArrayList;
import java.util.Comparator;
import java.util.HashSet;
import java.util.List;
import java.util.Map;
import java.util.Set;
import java.util.TreeMap;
import java.util.function.ToIntFunction;

/**
 * The document told a second time, by other means than the class: maps of small objects that are
 * cleared when they run out, undoing by doing all acts again from the start, orders by recursion,
 * foreseeing by trying every choice, plans by regular steps over a String. Used to compare answers.
 */
final class Model {
    static final int BAD = -1, NOT = -2, FULL = -3, WAITS = -4, STATE = -5, LEASED = -6;

    record Write(int key, int value, int client) { }

    record Old(int value, int end) { }

    record Lease(int client, int token, int end) { }

    static final class Entry {
        int value, version, born, used, hits, end;

        Entry copy() {
            Entry e = new Entry();
            e.value = value;
            e.version = version;
            e.born = born;
            e.used = used;
            e.hits = hits;
            e.end = end;
            return e;
        }

        int part(int what) {
            return new int[] {value, version, born, used, hits, end}[what];
        }
    }

    static final class Hand {
        int key, token, value, version;
        boolean looked, neighbour;

        Hand copy() {
            Hand h = new Hand();
            h.key = key;
            h.token = token;
            h.value = value;
            h.version = version;
            h.looked = looked;
            h.neighbour = neighbour;
            return h;
        }
    }

    static final class Group {
        boolean cold;
        final TreeMap<Integer, Entry> entries = new TreeMap<>();
        final TreeMap<Integer, Old> olds = new TreeMap<>();
        final TreeMap<Integer, Lease> leases = new TreeMap<>();
        final TreeMap<Integer, Integer> holds = new TreeMap<>();

        Group copy() {
            Group g = new Group();
            g.cold = cold;
            entries.forEach((k, e) -> g.entries.put(k, e.copy()));
            g.olds.putAll(olds);
            g.leases.putAll(leases);
            g.holds.putAll(holds);
            return g;
        }

        void runOut(int now) {
            entries.values().removeIf(e -> now >= e.end);
            olds.values().removeIf(o -> now >= o.end());
            leases.values().removeIf(l -> now >= l.end());
            holds.values().removeIf(end -> now >= end);
        }
    }

    /** What an image keeps. */
    static final class World {
        int now, tokens;
        int[] settings = {4, 50, 5, 6, 2, 0, 1};
        int[] led = new int[10];
        int[] ever = new int[10];
        int[] place = new int[3];
        int[] loads = new int[3];
        int[] at = {0, 1, 2, 3, 4, 5};
        Hand[] hands = new Hand[6];
        Group[] groups = new Group[6];
        List<Write> journal = new ArrayList<>();
        List<TreeMap<Integer, Integer>> markers = List.of(new TreeMap<>(), new TreeMap<>(), new TreeMap<>());

        World() {
            for (int g = 0; g < 6; g++) groups[g] = new Group();
        }

        World copy() {
            World w = new World();
            w.now = now;
            w.tokens = tokens;
            w.settings = settings.clone();
            w.led = led.clone();
            w.ever = ever.clone();
            w.place = place.clone();
            w.loads = loads.clone();
            w.at = at.clone();
            for (int c = 0; c < 6; c++) w.hands[c] = hands[c] == null ? null : hands[c].copy();
            for (int g = 0; g < 6; g++) w.groups[g] = groups[g].copy();
            w.journal.addAll(journal);
            for (int r = 0; r < 3; r++) w.markers.get(r).putAll(markers.get(r));
            return w;
        }

        int lastUpTo(int key, int n) {
            for (int v = n; v >= 1; v--) if (journal.get(v - 1).key() == key) return v;
            return 0;
        }

        int value(int version) {
            return version == 0 ? 0 : journal.get(version - 1).value();
        }

        int inStore(int region, int key) {
            return lastUpTo(key, region == 0 ? journal.size() : place[region]);
        }

        int get(int c, int key) {
            Group g = groups[at[c]];
            Entry e = g.entries.get(key);
            if (e != null) {
                e.used = now;
                e.hits++;
                ever[key]++;
                led[0]++;
                return e.value;
            }
            if (settings[6] == 1 && g.leases.containsKey(key)) {
                if (g.leases.get(key).client() == c) return LEASED;
                if (g.olds.containsKey(key)) {
                    led[3]++;
                    return 1000 + g.olds.get(key).value();
                }
                led[2]++;
                return WAITS;
            }
            Hand h = new Hand();
            h.key = key;
            if (settings[6] == 1) {
                h.token = ++tokens;
                g.leases.put(key, new Lease(c, h.token, now + settings[3]));
            }
            hands[c] = h;
            led[1]++;
            return LEASED;
        }

        int look(int c) {
            Hand h = hands[c];
            if (h == null) return STATE;
            int g = at[c];
            int other = g % 2 == 0 ? g + 1 : g - 1;
            h.looked = true;
            h.neighbour = groups[g].cold && !groups[other].cold && groups[other].entries.containsKey(h.key);
            if (h.neighbour) {
                led[6]++;
                h.value = groups[other].entries.get(h.key).value;
                h.version = groups[other].entries.get(h.key).version;
                return h.value;
            }
            int region = markers.get(g / 2).containsKey(h.key) ? 0 : g / 2;
            loads[region]++;
            h.version = inStore(region, h.key);
            h.value = value(h.version);
            return h.value;
        }

        int fill(int c) {
            Hand h = hands[c];
            if (h == null || !h.looked) return STATE;
            hands[c] = null;
            Group g = groups[at[c]];
            Lease l = g.leases.get(h.key);
            if (settings[6] == 1 && (l == null || l.token() != h.token) || h.neighbour && g.holds.containsKey(h.key)) {
                led[5]++;
                return 0;
            }
            come(at[c], h.key, h.value, h.version, settings[5]);
            return 1;
        }

        void come(int group, int key, int value, int version, int policy) {
            Group g = groups[group];
            g.leases.remove(key);
            g.olds.remove(key);
            g.entries.remove(key);
            while (g.entries.size() >= settings[0]) {
                g.entries.remove(least(group, policy));
                led[7]++;
            }
            Entry e = new Entry();
            e.value = value;
            e.version = version;
            e.born = now;
            e.used = now;
            e.end = now + settings[1];
            g.entries.put(key, e);
            led[4]++;
        }

        int least(int group, int policy) {
            ToIntFunction<Entry> by = switch (policy) {
                case 0 -> e -> e.used;
                case 1 -> e -> e.hits;
                case 2 -> e -> e.born;
                default -> e -> e.version;
            };
            return groups[group].entries.entrySet().stream()
                    .min(Comparator.comparingInt((Map.Entry<Integer, Entry> x) -> by.applyAsInt(x.getValue()))
                            .thenComparing(Map.Entry::getKey))
                    .map(Map.Entry::getKey).orElse(NOT);
        }

        int write(int c, int key, int v) {
            if (journal.size() == 60) return FULL;
            journal.add(new Write(key, v, c));
            if (at[c] >= 2) markers.get(at[c] / 2).put(key, journal.size());
            delete(at[c], key);
            return journal.size();
        }

        void delete(int group, int key) {
            Group g = groups[group];
            Entry e = g.entries.remove(key);
            if (e != null) {
                led[8]++;
                g.olds.remove(key);
                if (settings[2] > 0) g.olds.put(key, new Old(e.value, now + settings[2]));
            }
            if (g.leases.remove(key) != null) led[9]++;
            if (g.cold) {
                g.holds.remove(key);
                if (settings[4] > 0) g.holds.put(key, now + settings[4]);
            }
        }

        int apply(int region) {
            if (place[region] == journal.size()) return NOT;
            int version = ++place[region];
            int key = journal.get(version - 1).key();
            delete(region * 2, key);
            delete(region * 2 + 1, key);
            markers.get(region).computeIfPresent(key, (k, v) -> v > version ? v : null);
            return version;
        }

        int tick(int n) {
            now += n;
            for (Group g : groups) g.runOut(now);
            return now;
        }

        int cold(int group, int v) {
            Group g = groups[group];
            int was = g.cold ? 1 : 0;
            if (was == v) return was;
            if (v == 1) groups[group] = new Group();
            groups[group].holds.clear();
            groups[group].cold = v == 1;
            return was;
        }

        int go(int c, int group) {
            int was = at[c];
            hands[c] = null;
            at[c] = group;
            return was;
        }

        int set(int what, int v) {
            int was = settings[what];
            settings[what] = v;
            return was;
        }

        /** END, kind, GROUP, KEY. */
        List<int[]> dues() {
            List<int[]> all = new ArrayList<>();
            for (int i = 0; i < 6; i++) {
                int g = i;
                groups[g].entries.forEach((k, e) -> all.add(new int[] {e.end, 0, g, k}));
                groups[g].olds.forEach((k, o) -> all.add(new int[] {o.end(), 1, g, k}));
                groups[g].leases.forEach((k, l) -> all.add(new int[] {l.end(), 2, g, k}));
                groups[g].holds.forEach((k, end) -> all.add(new int[] {end, 3, g, k}));
            }
            all.sort(Comparator.<int[]>comparingInt(d -> d[0]).thenComparingInt(d -> d[1])
                    .thenComparingInt(d -> d[2]).thenComparingInt(d -> d[3]));
            return all;
        }

        int next() {
            List<int[]> all = dues();
            return all.isEmpty() ? NOT : tick(all.get(0)[0] - now);
        }

        int outdated(int group) {
            int bits = 0;
            for (Map.Entry<Integer, Entry> x : groups[group].entries.entrySet()) {
                if (x.getValue().version < lastUpTo(x.getKey(), place[group / 2])) bits |= 1 << x.getKey();
            }
            return bits;
        }

        int outdatedGroups() {
            int n = 0;
            for (int g = 0; g < 6; g++) if (outdated(g) != 0) n++;
            return n;
        }

        int allLoads() {
            return loads[0] + loads[1] + loads[2];
        }

        int restore(List<Long> longs, int group) {
            int done = 0;
            for (long x : longs) {
                if (!isSaved(x)) break;
                come(group, (int) (x / 1000 % 1000), (int) (x % 1000), (int) (x / 1000000), settings[5]);
                done++;
            }
            return done;
        }

        boolean isSaved(long x) {
            for (int key = 0; key < 10; key++) {
                if (x == key * 1000L) return true;
            }
            for (int v = 1; v <= journal.size(); v++) {
                Write w = journal.get(v - 1);
                if (x == v * 1000000L + w.key() * 1000L + w.value()) return true;
            }
            return false;
        }
    }

    private World world = new World();
    private World base = new World();
    private World kept;
    private final List<ToIntFunction<World>> done = new ArrayList<>();
    private final List<ToIntFunction<World>> undone = new ArrayList<>();
    private int undoable;
    private String tape = "";
    private final List<List<int[]>> plans = new ArrayList<>();
    private final long[][] rows = new long[4][];

    Model() {
        for (int c = 0; c < 6; c++) plans.add(null);
    }

    private static boolean in(int x, int low, int high) {
        return low <= x && x <= high;
    }

    private int act(ToIntFunction<World> what) {
        int answer = what.applyAsInt(world);
        if (answer == BAD || answer == NOT || answer == FULL || answer == STATE) return answer;
        done.add(what);
        undone.clear();
        undoable = Math.min(30, undoable + 1);
        return answer;
    }

    int get(int c, int k) {
        return in(c, 0, 5) && in(k, 0, 9) ? act(w -> w.get(c, k)) : BAD;
    }

    int look(int c) {
        return in(c, 0, 5) ? act(w -> w.look(c)) : BAD;
    }

    int fill(int c) {
        return in(c, 0, 5) ? act(w -> w.fill(c)) : BAD;
    }

    int write(int c, int k, int v) {
        return in(c, 0, 5) && in(k, 0, 9) && in(v, 0, 999) ? act(w -> w.write(c, k, v)) : BAD;
    }

    int apply(int r) {
        return in(r, 0, 2) ? act(w -> w.apply(r)) : BAD;
    }

    int tick(int n) {
        return in(n, 1, 50) ? act(w -> w.tick(n)) : BAD;
    }

    int cold(int g, int v) {
        return in(g, 0, 5) && in(v, 0, 1) ? act(w -> w.cold(g, v)) : BAD;
    }

    int go(int c, int g) {
        return in(c, 0, 5) && in(g, 0, 5) ? act(w -> w.go(c, g)) : BAD;
    }

    int set(int what, int v) {
        boolean ok = switch (what) {
            case 0 -> in(v, 1, 8);
            case 1 -> in(v, 1, 99);
            case 2, 4 -> in(v, 0, 20);
            case 3 -> in(v, 1, 20);
            case 5 -> in(v, 0, 3);
            case 6 -> in(v, 0, 1);
            default -> false;
        };
        return ok ? act(w -> w.set(what, v)) : BAD;
    }

    int next() {
        return act(World::next);
    }

    int undo() {
        if (undoable == 0) return STATE;
        undoable--;
        undone.add(done.remove(done.size() - 1));
        world = base.copy();
        for (ToIntFunction<World> what : done) what.applyAsInt(world);
        return undoable;
    }

    int redo() {
        if (undone.isEmpty()) return STATE;
        ToIntFunction<World> what = undone.remove(undone.size() - 1);
        what.applyAsInt(world);
        done.add(what);
        undoable++;
        return undone.size();
    }

    int setting(int what) {
        return in(what, 0, 6) ? world.settings[what] : BAD;
    }

    int entry(int g, int k, int what) {
        if (!in(g, 0, 5) || !in(k, 0, 9) || !in(what, 0, 5)) return BAD;
        Entry e = world.groups[g].entries.get(k);
        return e == null ? NOT : e.part(what);
    }

    int beside(int g, int k, int what) {
        if (!in(g, 0, 5) || !in(k, 0, 9) || !in(what, 0, 5)) return BAD;
        Old o = world.groups[g].olds.get(k);
        Lease l = world.groups[g].leases.get(k);
        return switch (what) {
            case 0 -> o == null ? NOT : o.value();
            case 1 -> o == null ? NOT : o.end();
            case 2 -> l == null ? NOT : l.client();
            case 3 -> l == null ? NOT : l.token();
            case 4 -> l == null ? NOT : l.end();
            default -> world.groups[g].holds.getOrDefault(k, NOT);
        };
    }

    int client(int c, int what) {
        if (!in(c, 0, 5) || !in(what, 0, 6)) return BAD;
        if (what == 0) return world.at[c];
        Hand h = world.hands[c];
        if (h == null || what >= 4 && !h.looked) return NOT;
        return new int[] {0, h.key, h.token, h.looked ? 1 : 0, h.value, h.version, h.neighbour ? 1 : 0}[what];
    }

    int store(int r, int k, int what) {
        if (!in(r, 0, 2) || !in(k, 0, 9) || !in(what, 0, 2)) return BAD;
        int version = world.inStore(r, k);
        return what == 0 ? world.value(version) : what == 1 ? version : world.markers.get(r).getOrDefault(k, NOT);
    }

    int region(int r, int what) {
        if (!in(r, 0, 2) || !in(what, 0, 2)) return BAD;
        return new int[] {world.place[r], world.journal.size() - world.place[r], world.loads[r]}[what];
    }

    int within(int k, int n, int what) {
        if (!in(k, 0, 9) || !in(n, 0, world.journal.size()) || !in(what, 0, 1)) return BAD;
        int version = world.lastUpTo(k, n);
        return what == 0 ? world.value(version) : version;
    }

    int least(int g, int policy) {
        return in(g, 0, 5) && in(policy, 0, 3) ? world.least(g, policy) : BAD;
    }

    int outdated(int g) {
        return in(g, 0, 5) ? world.outdated(g) : BAD;
    }

    int lag(int g, int k) {
        if (!in(g, 0, 5) || !in(k, 0, 9)) return BAD;
        Entry e = world.groups[g].entries.get(k);
        if (e == null) return NOT;
        return (int) world.journal.stream().skip(e.version).filter(x -> x.key() == k).count();
    }

    int own(int c, int k) {
        if (!in(c, 0, 5) || !in(k, 0, 9)) return BAD;
        Entry e = world.groups[world.at[c]].entries.get(k);
        if (e == null) return NOT;
        for (int v = e.version + 1; v <= world.journal.size(); v++) {
            Write x = world.journal.get(v - 1);
            if (x.key() == k && x.client() == c) return 0;
        }
        return 1;
    }

    int due(int k, int what) {
        if (k < 0 || !in(what, 0, 2)) return BAD;
        List<int[]> all = world.dues();
        if (k >= all.size()) return NOT;
        int[] d = all.get(k);
        return what == 2 ? d[2] * 100 + d[3] : d[what];
    }

    int hottest(int k) {
        if (!in(k, 0, 9)) return BAD;
        List<Integer> keys = new ArrayList<>();
        for (int i = 0; i < 10; i++) keys.add(i);
        keys.sort(Comparator.comparingInt(i -> -world.ever[i]));
        return keys.get(k);
    }

    int led(int what) {
        return in(what, 0, 9) ? world.led[what] : BAD;
    }

    int storm(int clients, int key, int takes, int what) {
        if (!in(clients, 1, 63) || !in(key, 0, 9) || !in(takes, 0, 1) || !in(what, 0, 3)) return BAD;
        World w = world.copy();
        Set<Integer> without = new HashSet<>();
        for (int c = 0; c < 6; c++) if ((clients & 1 << c) != 0) without.add(c);
        int told = without.size();
        int rounds = 0;
        do {
            rounds++;
            for (int c = 0; c < 6; c++) {
                if (!without.contains(c)) continue;
                int answer = w.get(c, key);
                if (in(answer, 0, 999) || answer >= 1000 && takes == 1) without.remove(c);
            }
            List<Integer> lookers = new ArrayList<>();
            for (int c = 0; c < 6; c++) {
                if (without.contains(c) && w.hands[c] != null && w.hands[c].key == key) lookers.add(c);
            }
            for (int c : lookers) w.look(c);
            for (int c : lookers) {
                w.fill(c);
                without.remove(c);
            }
        } while (!without.isEmpty() && rounds < 6);
        return new int[] {rounds, w.allLoads() - world.allLoads(), told - without.size(), w.led[4] - world.led[4]}[what];
    }

    int settled(int what) {
        if (!in(what, 0, 3)) return BAD;
        World w = world.copy();
        int applied = 0;
        for (int r = 0; r < 3; r++) while (w.apply(r) != NOT) applied++;
        int entries = 0;
        int olds = 0;
        for (Group g : w.groups) {
            entries += g.entries.size();
            olds += g.olds.size();
        }
        return new int[] {applied, entries, olds, w.outdatedGroups()}[what];
    }

    int tried(int shelf, int g, int policy) {
        if (!in(shelf, 0, 3) || !in(g, 0, 5) || !in(policy, 0, 3)) return BAD;
        if (rows[shelf] == null) return -11;
        World w = world.copy();
        int hits = 0;
        for (long x : rows[shelf]) {
            if (x < 0 || x > 9) break;
            w.tick(1);
            Entry e = w.groups[g].entries.get((int) x);
            if (e != null) {
                e.used = w.now;
                e.hits++;
                hits++;
            } else {
                int version = w.inStore(g / 2, (int) x);
                w.come(g, (int) x, w.value(version), version, policy);
            }
        }
        return hits;
    }

    int best(int shelf, int g) {
        int best = tried(shelf, g, 0);
        if (best < 0) return best;
        int policy = 0;
        for (int p = 1; p < 4; p++) {
            if (tried(shelf, g, p) > best) {
                best = tried(shelf, g, p);
                policy = p;
            }
        }
        return policy;
    }

    /** The most hits for each set of keys that can be there, place by place. */
    int foreseen(int shelf, int g) {
        if (!in(shelf, 0, 3) || !in(g, 0, 5)) return BAD;
        if (rows[shelf] == null) return -11;
        int start = 0;
        for (int k : world.groups[g].entries.keySet()) start |= 1 << k;
        Map<Integer, Integer> best = new TreeMap<>(Map.of(start, 0));
        for (long x : rows[shelf]) {
            if (x < 0 || x > 9) break;
            Map<Integer, Integer> after = new TreeMap<>();
            for (Map.Entry<Integer, Integer> b : best.entrySet()) {
                int there = b.getKey();
                if ((there >> x & 1) == 1) {
                    after.merge(there, b.getValue() + 1, Math::max);
                    continue;
                }
                int left = Math.min(Integer.bitCount(there), world.settings[0] - 1);
                for (int sub = there; ; sub = sub - 1 & there) {
                    if (Integer.bitCount(sub) == left) after.merge(sub | 1 << x, b.getValue(), Math::max);
                    if (sub == 0) break;
                }
            }
            best = after;
        }
        return best.values().stream().max(Integer::compare).orElse(0);
    }

    int feed(int letter) {
        if (!in(letter, 0, 255)) return BAD;
        if (tape.length() == 160) return FULL;
        tape += (char) letter;
        return tape.length();
    }

    int plan(int c) {
        if (!in(c, 0, 5)) return BAD;
        String text = tape;
        tape = "";
        List<int[]> acts = new ArrayList<>();
        int fault = read(text, acts);
        if (fault >= 0) return -100 - fault;
        plans.set(c, acts);
        return acts.size();
    }

    /** The fault's place, or -1. */
    private static int read(String text, List<int[]> acts) {
        List<String> words = List.of("get", "look", "fill", "write", "apply", "tick", "cold", "warm");
        int[][][] ranges = {{{0, 9}}, {}, {}, {{0, 9}, {0, 999}}, {{0, 2}}, {{1, 50}}, {{0, 5}}, {{0, 5}}};
        int at = 0;
        while (true) {
            if (acts.size() == 5) return at;
            String word = text.substring(at).replaceFirst("(?s)[^a-z].*", "");
            int kind = words.indexOf(word);
            if (kind < 0) return at;
            at += word.length();
            int[] act = {kind, 0, 0};
            for (int i = 0; i < ranges[kind].length; i++) {
                if (at == text.length() || text.charAt(at) != ' ') return at;
                at++;
                String figures = text.substring(at, Math.min(at + 3, text.length())).replaceFirst("(?s)[^0-9].*", "");
                if (figures.isEmpty()) return at;
                act[i + 1] = Integer.parseInt(figures);
                if (!in(act[i + 1], ranges[kind][i][0], ranges[kind][i][1])) return at;
                at += figures.length();
            }
            acts.add(act);
            if (at == text.length()) return -1;
            if (text.charAt(at) != ';') return at;
            at++;
        }
    }

    private static void perform(World w, int c, int[] act) {
        switch (act[0]) {
            case 0 -> w.get(c, act[1]);
            case 1 -> w.look(c);
            case 2 -> w.fill(c);
            case 3 -> w.write(c, act[1], act[2]);
            case 4 -> w.apply(act[1]);
            case 5 -> w.tick(act[1]);
            case 6 -> w.cold(act[1], 1);
            default -> w.cold(act[1], 0);
        }
    }

    private final class Walk {
        int total, stale, least = Integer.MAX_VALUE, most = -1;
        final Set<Integer> values = new HashSet<>();
        List<Integer> witness;

        void on(World w, int clients, int[] next, List<Integer> path, int key) {
            boolean end = true;
            for (int c = 0; c < 6; c++) {
                if ((clients & 1 << c) == 0 || next[c] == plans.get(c).size()) continue;
                end = false;
                World after = w.copy();
                perform(after, c, plans.get(c).get(next[c]));
                next[c]++;
                path.add(c);
                on(after, clients, next, path, key);
                path.remove(path.size() - 1);
                next[c]--;
            }
            if (!end) return;
            total++;
            int loads = w.allLoads() - world.allLoads();
            least = Math.min(least, loads);
            most = Math.max(most, loads);
            Entry e = w.groups[0].entries.get(key);
            if (e != null) values.add(e.value);
            if (w.outdatedGroups() > 0) {
                stale++;
                if (witness == null) witness = new ArrayList<>(path);
            }
        }
    }

    private int ordersRefusal(int clients) {
        if (!in(clients, 1, 63) || Integer.bitCount(clients) > 3) return BAD;
        int acts = 0;
        for (int c = 0; c < 6; c++) {
            if ((clients & 1 << c) == 0) continue;
            if (plans.get(c) == null) return BAD;
            acts += plans.get(c).size();
        }
        return acts > 8 ? STATE : 0;
    }

    int orders(int clients, int key, int what) {
        if (ordersRefusal(clients) == BAD || !in(key, 0, 9) || !in(what, 0, 4)) return BAD;
        if (ordersRefusal(clients) == STATE) return STATE;
        Walk walk = new Walk();
        walk.on(world.copy(), clients, new int[6], new ArrayList<>(), key);
        return new int[] {walk.total, walk.stale, walk.least, walk.most, walk.values.size()}[what];
    }

    int witness(int clients, int k) {
        if (ordersRefusal(clients) == BAD || k < 0) return BAD;
        if (ordersRefusal(clients) == STATE) return STATE;
        Walk walk = new Walk();
        walk.on(world.copy(), clients, new int[6], new ArrayList<>(), 0);
        return walk.witness == null || k >= walk.witness.size() ? NOT : walk.witness.get(k);
    }

    int row(int shelf, int n) {
        if (!in(shelf, 0, 3) || n > 40) return BAD;
        if (n < 0) return -14;
        rows[shelf] = new long[n];
        return 1;
    }

    int put(int shelf, int i, long v) {
        if (!in(shelf, 0, 3)) return BAD;
        if (rows[shelf] == null) return -11;
        if (i < 0 || i >= rows[shelf].length) return -13;
        rows[shelf][i] = v;
        return 1;
    }

    long element(int shelf, int i) {
        boolean there = in(shelf, 0, 3) && rows[shelf] != null && i >= 0 && i < rows[shelf].length;
        return there ? rows[shelf][i] : Long.MIN_VALUE;
    }

    int save(int shelf, int i, int g) {
        if (!in(shelf, 0, 3) || !in(g, 0, 5)) return BAD;
        if (rows[shelf] == null) return -11;
        List<Long> all = new ArrayList<>();
        world.groups[g].entries.forEach((k, e) -> all.add(e.version * 1000000L + k * 1000L + e.value));
        if (i < 0 || (long) i + all.size() > rows[shelf].length) return -13;
        for (int j = 0; j < all.size(); j++) rows[shelf][i + j] = all.get(j);
        return all.size();
    }

    int restore(int shelf, int i, int n, int g) {
        if (!in(shelf, 0, 3) || !in(n, 0, 10) || !in(g, 0, 5)) return BAD;
        if (rows[shelf] == null) return -11;
        if (i < 0 || (long) i + n > rows[shelf].length) return -13;
        List<Long> longs = new ArrayList<>();
        for (int j = 0; j < n; j++) longs.add(rows[shelf][i + j]);
        return act(w -> w.restore(longs, g));
    }

    int image() {
        kept = world.copy();
        return world.now;
    }

    int back() {
        if (kept == null) return STATE;
        world = kept.copy();
        base = kept.copy();
        done.clear();
        undone.clear();
        undoable = 0;
        return world.now;
    }

    int count(int what) {
        int entries = 0;
        int leases = 0;
        int marks = 0;
        int hands = 0;
        int plansThere = 0;
        for (Group g : world.groups) entries += g.entries.size();
        for (Group g : world.groups) leases += g.leases.size();
        for (TreeMap<Integer, Integer> m : world.markers) marks += m.size();
        for (Hand h : world.hands) if (h != null) hands++;
        for (List<int[]> p : plans) if (p != null) plansThere++;
        int[] all = {world.journal.size(), entries, leases, marks, hands, tape.length(), plansThere, world.now, undoable};
        return in(what, 0, 8) ? all[what] : BAD;
    }
}
