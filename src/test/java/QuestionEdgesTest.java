import java.util.Arrays;

/** The edges of what is asked: part 3 of the document's terms, and promises 14 to 32. */
public final class QuestionEdgesTest extends Steps {
    private final Due due = new Due();

    public static void main(String[] args) {
        QuestionEdgesTest t = new QuestionEdgesTest();
        t.entryParts();
        t.besideParts();
        t.clientParts();
        t.storeParts();
        t.regionParts();
        t.withinEdges();
        t.outdatedByVersion();
        t.outdatedByPlace();
        t.lagEdges();
        t.ownEdges();
        t.ownAmongMany();
        t.duesInOrder();
        t.duesOfAllKindsAtOnce();
        t.manyDues();
        t.hottestEdges();
        t.hottestEver();
        t.ledOneByOne();
        t.stormTellsOfTheTold();
        t.stormRounds();
        t.stormByNumbers();
        t.stormWithHands();
        t.stormWithOldOnes();
        t.stormAtColdGroups();
        t.settledEdges();
        t.settledAll();
        t.triedTillNoKey();
        t.triedWithTicks();
        t.triedFills();
        t.triedFullRow();
        t.triedByThatPolicy();
        t.bestOfEach();
        t.foreseenTillNoKey();
        t.foreseenRooms();
        t.foreseenFromWhatIsThere();
        t.foreseenFullRow();
        t.countOneByOne();
        t.countHands();
        t.due.end();
    }

    // ---- what there is, part by part

    private void entryParts() {
        due.about("15 entry");
        LookAsideCache x = fresh();
        x.set(1, 99);
        x.write(3, 9, 999);
        x.tick(50);
        load(x, 3, 9);
        x.tick(1);
        x.get(3, 9);
        x.get(3, 9);
        int[] parts = {999, 1, 50, 51, 2, 149};
        for (int what = 0; what < 6; what++) {
            due.is("part " + what, x.entry(3, 9, what), parts[what]);
            due.is("no entry " + what, x.entry(3, 8, what), NOT);
            due.is("no entry " + what, x.entry(2, 9, what), NOT);
        }
        x.write(3, 9, 1);
        for (int what = 0; what < 6; what++) {
            due.is("deleted " + what, x.entry(3, 9, what), NOT);
        }
    }

    private void besideParts() {
        due.about("16 beside");
        LookAsideCache x = fresh();
        x.get(5, 0);
        int[] leased = {NOT, NOT, 5, 1, 6, NOT};
        for (int what = 0; what < 6; what++) {
            due.is("a lease alone " + what, x.beside(5, 0, what), leased[what]);
            due.is("another key " + what, x.beside(5, 1, what), NOT);
            due.is("another group " + what, x.beside(4, 0, what), NOT);
        }
        x.look(5);
        x.fill(5);
        x.write(5, 0, 9);
        int[] old = {0, 5, NOT, NOT, NOT, NOT};
        for (int what = 0; what < 6; what++) {
            due.is("an old copy alone " + what, x.beside(5, 0, what), old[what]);
        }
        x.cold(5, 1);
        x.write(5, 0, 8);
        int[] held = {NOT, NOT, NOT, NOT, NOT, 2};
        for (int what = 0; what < 6; what++) {
            due.is("a hold-off alone " + what, x.beside(5, 0, what), held[what]);
        }
        load(x, 5, 0);
        due.is("an entry is none of these", x.beside(5, 0, 0), NOT);
    }

    private void clientParts() {
        due.about("17 client");
        LookAsideCache x = fresh();
        due.is("its group, without a hand", x.client(4, 0), 4);
        x.write(0, 9, 999);
        load(x, 4, 9);
        for (int what = 1; what < 7; what++) {
            due.is("the hand ended " + what, x.client(4, what), NOT);
        }
        x.cold(5, 1);
        x.get(5, 9);
        due.is("looked: not yet", x.client(5, 3), 0);
        for (int what = 4; what < 7; what++) {
            due.is("it hasn't looked " + what, x.client(5, what), NOT);
        }
        x.look(5);
        int[] parts = {5, 9, 2, 1, 0, 0, 1};
        for (int what = 0; what < 7; what++) {
            due.is("part " + what, x.client(5, what), parts[what]);
        }
    }

    private void storeParts() {
        due.about("18 store");
        LookAsideCache x = fresh();
        x.write(5, 9, 999);
        due.is("home has it", x.store(0, 9, 0), 999);
        due.is("its version", x.store(0, 9, 1), 1);
        due.is("region 2 hasn't", x.store(2, 9, 0), 0);
        due.is("but a marker", x.store(2, 9, 2), 1);
        due.is("region 1 has none", x.store(1, 9, 2), NOT);
        due.is("home has none", x.store(0, 9, 2), NOT);
        x.apply(2);
        due.is("applied", x.store(2, 9, 0), 999);
        due.is("its version", x.store(2, 9, 1), 1);
        due.is("the marker went", x.store(2, 9, 2), NOT);
    }

    private void regionParts() {
        due.about("19 region");
        LookAsideCache x = fresh();
        for (int r = 0; r < 3; r++) {
            for (int what = 0; what < 3; what++) {
                due.is("0 at first", x.region(r, what), 0);
            }
        }
        x.write(0, 1, 1);
        x.write(0, 1, 2);
        x.apply(1);
        x.apply(1);
        x.apply(2);
        int[] behind = {2, 0, 1};
        for (int r = 0; r < 3; r++) {
            due.is("place", x.region(r, 0), 2 - behind[r]);
            due.is("not applied", x.region(r, 1), behind[r]);
            due.is("loads", x.region(r, 2), 0);
        }
        load(x, 0, 1);
        x.cold(1, 1);
        load(x, 1, 1);
        due.is("a look at a neighbour is no load", x.region(0, 2), 1);
        x.storm(63, 5, 0, 1);
        due.is("nor one in thought", x.region(0, 2) + x.region(1, 2) + x.region(2, 2), 1);
    }

    private void withinEdges() {
        due.about("20 within: n (0 .. how many WRITES there are)");
        LookAsideCache x = fresh();
        due.is("n 0 of none", x.within(0, 0, 0) + x.within(9, 0, 1), 0);
        due.is("n 1 of none", x.within(0, 1, 0), BAD);
        x.write(0, 3, 33);
        due.is("ahead of the first", x.within(3, 0, 0) + x.within(3, 0, 1), 0);
        due.is("with the first", x.within(3, 1, 0), 33);
        due.is("of another key", x.within(2, 1, 0) + x.within(2, 1, 1), 0);
        due.is("past the last", x.within(3, 2, 0), BAD);
        x.write(5, 3, 34);
        due.is("now it is one", x.within(3, 2, 1), 2);
        due.is("the first is as it was", x.within(3, 1, 0), 33);
        x.undo();
        due.is("undone: it is none", x.within(3, 2, 1), BAD);
    }

    // ---- OUTDATED, lag, own

    private static long saved(int version, int key, int value) {
        return version * 1000000L + key * 1000L + value;
    }

    private void outdatedByVersion() {
        due.about("OUTDATED: VERSION less than the last WRITE of its KEY among those up to the PLACE");
        for (int g = 0; g < 6; g++) {
            for (int key = 0; key < 10; key += 9) {
                LookAsideCache x = fresh();
                x.write(0, key, 1);
                x.write(0, key, 2);
                row(x, 0, saved(0, key, 0), saved(1, key, 1), saved(2, key, 2));
                for (int place = 0; place <= 2; place++) {
                    for (int version = 0; version <= 2; version++) {
                        x.restore(0, version, 1, g);
                        due.is(version + " at place " + place, x.outdated(g), version < place ? 1 << key : 0);
                        due.is("settled", x.settled(3), place == 2 && version < 2 ? 1 : 0);
                    }
                    x.restore(0, 0, 1, g);
                    x.apply(g / 2);
                }
                x.restore(0, 0, 1, g);
                x.restore(0, 0, 1, (g + 2) % 6);
                due.is("its own region's place", x.outdated((g + 2) % 6), 0);
                due.is("settled", x.settled(3), 1);
            }
        }
    }

    private void outdatedByPlace() {
        due.about("OUTDATED: bits of KEYS; HOME by its PLACE, not by its STORE");
        LookAsideCache x = fresh();
        x.set(0, 8);
        for (int key = 0; key < 10; key++) {
            x.write(5, key, 5);
        }
        for (int key = 2; key < 10; key++) {
            row(x, 0, saved(0, key, 0));
            x.restore(0, 0, 1, 1);
        }
        due.is("none is applied", x.outdated(1), 0);
        for (int place = 1; place <= 10; place++) {
            x.apply(0);
            if (place > 2) {
                due.is("deleted by it", x.entry(1, place - 1, 0), NOT);
            }
        }
        due.is("none is left", x.outdated(1), 0);
        for (int key = 2; key < 10; key++) {
            row(x, 0, saved(0, key, 0));
            x.restore(0, 0, 1, 1);
        }
        due.is("all of them", x.outdated(1), 0x3fc);
        x.get(1, 0);
        x.look(1);
        x.fill(1);
        due.is("as new as the store", x.outdated(1) & 1, 0);
        x.tick(50);
        due.is("gone", x.outdated(1), 0);
    }

    private void lagEdges() {
        due.about("23 lag");
        LookAsideCache x = fresh();
        x.write(5, 0, 1);
        x.write(5, 9, 1);
        x.write(5, 0, 2);
        x.write(5, 0, 3);
        x.write(5, 9, 2);
        int[] lags = {3, 2, 9, 1, 0};
        long[] versions = {saved(0, 0, 0), saved(1, 0, 1), 0, saved(3, 0, 2), saved(4, 0, 3)};
        for (int i = 0; i < 5; i++) {
            if (i != 2) {
                row(x, 0, versions[i]);
                x.restore(0, 0, 1, 3);
                due.is("of version " + i, x.lag(3, 0), lags[i]);
            }
        }
        row(x, 0, saved(2, 9, 1));
        x.restore(0, 0, 1, 3);
        due.is("of key 9", x.lag(3, 9), 1);
        due.is("though nothing is applied", x.region(1, 0), 0);
        due.is("no entry in another group", x.lag(2, 0), NOT);
    }

    private void ownEdges() {
        due.about("24 own");
        LookAsideCache x = fresh();
        x.write(0, 1, 11);
        x.go(0, 1);
        x.write(5, 1, 12);
        x.write(0, 1, 13);
        x.write(5, 1, 14);
        int[] own = {0, 0, 0, 1, 1};
        for (int version = 0; version <= 4; version++) {
            row(x, 0, version == 0 ? saved(0, 1, 0) : saved(version, 1, 10 + version));
            x.restore(0, 0, 1, 1);
            due.is("version " + version, x.own(0, 1), own[version]);
            due.is("no write of its own", x.own(1, 1), 1);
        }
        x.go(5, 1);
        due.is("as new", x.own(5, 1), 1);
        x.go(0, 0);
        due.is("none at its group", x.own(0, 1), NOT);
    }

    private void ownAmongMany() {
        due.about("24 own: its last WRITE of this KEY among many");
        for (int c = 0; c < 6; c++) {
            LookAsideCache x = fresh();
            x.go(c, 4);
            for (int key = 0; key < 10; key++) {
                x.write(c, key, key);
                x.write((c + 1) % 6, (key + 3) % 10, key);
            }
            x.set(0, 8);
            for (int key = 0; key < 10; key++) {
                int version = 2 * key + 1;
                for (int v = version - 1; v <= version + 1; v++) {
                    boolean another = v > 0 && v != version;
                    row(x, 0, v == 0 || another ? saved(0, key, 0) : saved(v, key, key));
                    x.restore(0, 0, 1, 4);
                    due.is("key " + key, x.own(c, key), v == version ? 1 : 0);
                }
            }
        }
    }

    // ---- DUES, HOTTEST, LED

    private void duesInOrder() {
        due.about("DUES: by their ENDS, then kinds, then GROUPS, then KEYS");
        LookAsideCache x = fresh();
        x.set(1, 6);
        for (int g = 5; g >= 0; g--) {
            load(x, g, 9);
            load(x, g, 0);
        }
        for (int k = 0; k < 12; k++) {
            due.is("end", x.due(k, 0), 6);
            due.is("kind", x.due(k, 1), 0);
            due.is("groups, then keys", x.due(k, 2), k / 2 * 100 + k % 2 * 9);
        }
        due.is("not as many", x.due(12, 0), NOT);
        x.tick(1);
        x.set(1, 1);
        load(x, 5, 8);
        due.is("an earlier end goes ahead", x.due(0, 2), 508);
        due.is("its end", x.due(0, 0), 2);
        x.get(0, 8);
        due.is("a later one behind", x.due(13, 1) * 10 + x.due(13, 0), 27);
        due.is("next", x.next(), 2);
        due.is("the others move up", x.due(0, 2), 0);
    }

    private void duesOfAllKindsAtOnce() {
        due.about("DUES: ENTRIES (kind 0), OLD copies (1), LEASES (2), HOLD-OFFS (3)");
        LookAsideCache x = fresh();
        for (int what = 1; what <= 4; what++) {
            x.set(what, 9);
        }
        x.cold(0, 1);
        x.write(0, 0, 1);
        load(x, 1, 0);
        x.write(1, 0, 1);
        x.get(1, 0);
        load(x, 5, 9);
        int[] wheres = {509, 100, 100, 0};
        for (int kind = 0; kind < 4; kind++) {
            due.is("kind", x.due(kind, 1), kind);
            due.is("where", x.due(kind, 2), wheres[kind]);
            due.is("end", x.due(kind, 0), 9);
        }
        due.is("not as many", x.due(4, 1), NOT);
        due.is("next", x.next(), 9);
        due.is("all are gone", x.due(0, 1), NOT);
    }

    private void manyDues() {
        due.about("DUES: many");
        LookAsideCache x = fresh();
        x.set(3, 20);
        x.set(4, 20);
        for (int g = 0; g < 6; g++) {
            x.cold(g, 1);
            for (int key = 0; key < 10; key++) {
                x.write(g, key, 1);
                x.get(g, key);
            }
        }
        for (int k = 0; k < 120; k++) {
            due.is("kind " + k, x.due(k, 1), k < 60 ? 2 : 3);
            due.is("where " + k, x.due(k, 2), k % 60 / 10 * 100 + k % 10);
        }
        for (int k = 120; k < 126; k++) {
            due.is("not as many", x.due(k, 0), NOT);
        }
        due.is("not as many", x.due(240, 0), NOT);
        due.is("not as many", x.due(Integer.MAX_VALUE, 0), NOT);
    }

    private void hottestEdges() {
        due.about("HOTTEST: most first, of like ones the least first");
        LookAsideCache x = fresh();
        for (int key = 9; key >= 0; key--) {
            load(x, key % 6, key);
            for (int n = 0; n < key / 2; n++) {
                x.get(key % 6, key);
            }
        }
        int[] keys = {8, 9, 6, 7, 4, 5, 2, 3, 0, 1};
        for (int k = 0; k < 10; k++) {
            due.is("place " + k, x.hottest(k), keys[k]);
        }
        for (int n = 0; n < 20; n++) {
            x.write(0, 1, 1);
            x.apply(0);
            x.apply(1);
            x.get(0, 1);
            x.look(0);
            x.look(0);
        }
        for (int k = 0; k < 10; k++) {
            due.is("other acts don't matter " + k, x.hottest(k), keys[k]);
        }
    }

    private void hottestEver() {
        due.about("HOTTEST: by HITS ever (of GETS)");
        LookAsideCache x = fresh();
        load(x, 2, 5);
        x.get(2, 5);
        x.write(2, 5, 5);
        due.is("though it ended", x.hottest(0), 5);
        load(x, 0, 7);
        load(x, 1, 7);
        x.get(0, 7);
        x.get(1, 7);
        due.is("of all groups together", x.hottest(0), 7);
        row(x, 0, 3, 3, 3, 3);
        x.tried(0, 0, 0);
        x.storm(63, 3, 1, 0);
        due.is("not those in thought", x.hottest(2), 0);
        x.undo();
        due.is("not those undone", x.hottest(0), 5);
    }

    /** What led(what) grew by, in the call of one act. */
    private void led(String name, LookAsideCache x, int what, Whole.Run act) {
        int[] before = new int[10];
        for (int i = 0; i < 10; i++) {
            before[i] = x.led(i);
        }
        act.on(x);
        for (int i = 0; i < 10; i++) {
            due.is(name + ", led " + i, x.led(i) - before[i], i == what ? 1 : 0);
        }
    }

    private void ledOneByOne() {
        due.about("27 led");
        LookAsideCache x = fresh();
        x.go(1, 0);
        led("leased", x, 1, y -> y.get(0, 1));
        led("its own lease", x, -1, y -> y.get(0, 1));
        led("waits", x, 2, y -> y.get(1, 1));
        led("a look", x, -1, y -> y.look(0));
        led("a fill", x, 4, y -> y.fill(0));
        led("a hit", x, 0, y -> y.get(1, 1));
        led("an entry deleted", x, 8, y -> y.write(0, 1, 1));
        led("leased", x, 1, y -> y.get(0, 1));
        led("an old copy", x, 3, y -> y.get(1, 1));
        x.look(0);
        led("a lease deleted", x, 9, y -> y.write(1, 1, 1));
        led("nothing deleted", x, -1, y -> y.write(1, 1, 1));
        led("refused", x, 5, y -> y.fill(0));
        led("no hand", x, -1, y -> y.fill(0));
        load(x, 0, 1);
        x.go(2, 1);
        x.cold(1, 1);
        x.get(2, 1);
        led("a look at a neighbour", x, 6, y -> y.look(2));
        led("again", x, 6, y -> y.look(2));
        x.set(0, 1);
        row(x, 0, 9000);
        int filled = x.led(4);
        led("gave way", x, -1, y -> y.write(5, 9, 1));
        x.restore(0, 0, 1, 0);
        due.is("a restored one counts as a fill", x.led(4), filled + 1);
        due.is("what gave way", x.led(7), 1);
        led("ran out", x, -1, y -> y.tick(50));
        load(x, 0, 1);
        led("ended by cold", x, -1, y -> y.cold(0, 1));
        led("in thought", x, -1, y -> y.storm(63, 1, 0, 0));
    }

    // ---- STORM

    private void storm(String name, LookAsideCache x, int clients, int key, int takes, int... answers) {
        for (int what = 0; what < 4; what++) {
            due.is(name + ", what " + what, x.storm(clients, key, takes, what), answers[what]);
        }
    }

    private void stormTellsOfTheTold() {
        due.about("STORM of told CLIENTS");
        for (int c = 0; c < 6; c++) {
            LookAsideCache x = fresh();
            for (int other = 0; other < 6; other++) {
                x.go(other, 3);
            }
            storm("one alone", x, 1 << c, 9, 0, 1, 1, 1, 1);
            storm("all but one", x, 63 - (1 << c), 9, 0, 2, 1, 5, 1);
        }
        LookAsideCache x = fresh();
        x.get(0, 1);
        x.look(0);
        storm("one that isn't told doesn't fill", x, 2, 1, 0, 1, 1, 1, 1);
        storm("its hand is none of theirs", x, 62, 1, 0, 1, 5, 5, 5);
        x.go(1, 0);
        storm("nor look", x, 2, 1, 0, 6, 0, 0, 0);
        storm("told, it does", x, 3, 1, 0, 2, 1, 2, 1);
    }

    private void stormRounds() {
        due.about("Rounds end when all have one, or behind the sixth");
        LookAsideCache x = fresh();
        load(x, 0, 1);
        storm("a hit: one round", x, 1, 1, 0, 1, 0, 1, 0);
        x.go(1, 0);
        x.go(2, 0);
        x.get(2, 3);
        storm("waits for one that isn't told: six", x, 3, 3, 0, 6, 0, 0, 0);
        storm("one of two groups", x, 1 + 8, 3, 0, 6, 1, 1, 1);
        x.tick(6);
        storm("the lease is gone: two", x, 3, 3, 0, 2, 1, 2, 1);
        x.set(6, 0);
        storm("without leases: one", x, 7, 3, 0, 1, 3, 3, 3);
        x.set(0, 1);
        storm("without leases, all of one group", x, 7, 4, 0, 1, 3, 3, 3);
    }

    private void stormByNumbers() {
        due.about("STORM: by numbers");
        LookAsideCache x = fresh();
        x.go(5, 0);
        x.go(3, 0);
        x.get(5, 1);
        storm("its own lease with its hand", x, 32 + 8, 1, 0, 2, 1, 2, 1);
        x.get(5, 2);
        storm("its hand is for another key: none comes", x, 32 + 8, 1, 0, 6, 0, 0, 0);
        storm("that key", x, 32 + 8, 2, 0, 2, 1, 2, 1);
        x.look(5);
        storm("it looks anew", x, 32, 2, 0, 1, 1, 1, 1);
    }

    private void stormWithHands() {
        due.about("STORM: each that has none and has a HAND for the KEY LOOKS, and has the VALUE");
        LookAsideCache x = fresh();
        x.go(1, 0);
        x.get(0, 1);
        x.write(1, 1, 5);
        x.get(1, 1);
        storm("a late one's fill is refused, it has its value", x, 1, 1, 0, 1, 1, 1, 0);
        storm("both", x, 3, 1, 0, 1, 2, 2, 1);
        x.go(0, 0);
        storm("without a hand it waits", x, 1, 1, 0, 6, 0, 0, 0);
        storm("till the other fills", x, 3, 1, 0, 2, 1, 2, 1);
    }

    private void stormWithOldOnes() {
        due.about("STORM: 1000 and more is one, if old ones are taken");
        LookAsideCache x = fresh();
        for (int c = 1; c < 6; c++) {
            x.go(c, 0);
        }
        load(x, 0, 1);
        x.write(0, 1, 5);
        storm("taken", x, 63, 1, 1, 1, 1, 6, 1);
        storm("not taken", x, 63, 1, 0, 2, 1, 6, 1);
        x.get(5, 1);
        storm("all by an old one", x, 31, 1, 1, 1, 0, 5, 0);
        storm("none", x, 31, 1, 0, 6, 0, 0, 0);
        x.tick(5);
        storm("the old copy is gone", x, 31, 1, 1, 6, 0, 0, 0);
    }

    private void stormAtColdGroups() {
        due.about("STORM: LOOKS, then FILLS; from a NEIGHBOUR");
        LookAsideCache x = fresh();
        x.cold(1, 1);
        storm("both look ahead of the fills", x, 3, 1, 0, 1, 2, 2, 2);
        load(x, 0, 1);
        storm("at the neighbour: no load", x, 3, 1, 0, 1, 0, 2, 1);
        x.write(1, 1, 5);
        storm("held off: a value, no fill", x, 2, 1, 0, 1, 0, 1, 0);
        x.go(2, 1);
        storm("others wait for its lease", x, 6, 1, 0, 6, 0, 1, 0);
    }

    // ---- SETTLED

    private void settledEdges() {
        due.about("SETTLED: APPLY as long as may be");
        LookAsideCache x = fresh();
        for (int what = 0; what < 4; what++) {
            due.is("nothing to apply", x.settled(what), 0);
        }
        for (int n = 0; n < 60; n++) {
            x.write(n % 6, n % 10, n);
        }
        due.is("all in all regions", x.settled(0), 180);
        x.apply(1);
        x.apply(2);
        x.apply(2);
        due.is("but those applied", x.settled(0), 177);
        due.is("in thought", x.region(0, 0) + x.region(1, 0) + x.region(2, 0), 3);
    }

    private void settledAll() {
        due.about("SETTLED: ENTRIES left, OLD copies, GROUPS with an OUTDATED ENTRY");
        LookAsideCache x = fresh();
        for (int c = 0; c < 6; c++) {
            load(x, c, 0);
            load(x, c, 9);
        }
        due.is("entries", x.settled(1), 12);
        x.write(0, 9, 1);
        due.is("those of other groups end, too", x.settled(1), 6);
        due.is("as old copies", x.settled(2), 6);
        x.set(2, 0);
        due.is("KEEP 0: but the one that is there", x.settled(2), 1);
        x.set(2, 5);
        x.tick(5);
        due.is("that one is gone", x.settled(2), 5);
        row(x, 0, 9000);
        x.apply(0);
        x.apply(1);
        x.apply(2);
        for (int g = 0; g < 6; g++) {
            due.is("outdated groups", x.settled(3), g);
            x.restore(0, 0, 1, g);
        }
        due.is("outdated groups", x.settled(3), 6);
        x.write(0, 9, 2);
        due.is("deleted by then", x.settled(3), 0);
    }

    // ---- TRIED, best, FORESEEN

    private void triedTillNoKey() {
        due.about("TRIED: for each long in turn, till one that is no KEY (0 .. 9)");
        long[] none = {-1, 10, Long.MIN_VALUE, Long.MAX_VALUE, 1L << 32, (1L << 32) + 3, -(1L << 32), 32, 64 + 3};
        for (long end : none) {
            LookAsideCache x = fresh();
            row(x, 0, 0, 9, 0, end, 9, 0);
            due.is("till " + end, x.tried(0, 0, 0), 1);
            due.is("foreseen till " + end, x.foreseen(0, 0), 1);
            due.is("best", x.best(0, 0), 0);
            row(x, 0, end, 0, 0);
            due.is("at once", x.tried(0, 0, 3) + x.foreseen(0, 0) + x.best(0, 0), 0);
        }
        LookAsideCache x = fresh();
        x.row(0, 0);
        for (int g = 0; g < 6; g++) {
            due.is("an empty row", x.tried(0, g, 3) + x.best(0, g) + x.foreseen(0, g), 0);
        }
        x.row(0, 1);
        due.is("a miss", x.tried(0, 0, 0), 0);
        load(x, 0, 0);
        due.is("a hit", x.tried(0, 0, 0), 1);
    }

    private void triedWithTicks() {
        due.about("TRIED: a tick goes by; then, if an ENTRY is there, it is a HIT");
        LookAsideCache x = fresh();
        x.set(1, 2);
        load(x, 0, 1);
        row(x, 0, 1);
        due.is("there behind a tick", x.tried(0, 0, 0), 1);
        x.tick(1);
        due.is("gone by the tick", x.tried(0, 0, 0), 0);
        due.is("though there now", x.foreseen(0, 0), 1);
        row(x, 0, 1, 1, 1, 1, 1);
        due.is("every other", x.tried(0, 0, 0), 2);
        x.set(1, 1);
        due.is("LIFE 1: none", x.tried(0, 0, 0), 0);
        x.set(1, 3);
        due.is("LIFE 3", x.tried(0, 0, 0), 3);
        due.is("NOW stays", x.count(7), 1);
    }

    private void triedFills() {
        due.about("TRIED: else one comes as by a FILL that isn't refused, of what the STORE of the REGION has");
        LookAsideCache x = fresh();
        x.write(4, 0, 9);
        x.set(0, 2);
        row(x, 0, 0, 1, 2, 0);
        due.is("not from home by the marker", x.tried(0, 4, 3), 0);
        due.is("home's own", x.tried(0, 1, 3), 1);
        due.is("region 1", x.tried(0, 3, 3), 0);
        x.apply(1);
        due.is("region 1 has it now", x.tried(0, 3, 3), 1);
        x.cold(3, 1);
        load(x, 2, 0);
        due.is("not from a neighbour", x.tried(0, 3, 3), 1);
        x.get(3, 2);
        due.is("a lease doesn't matter", x.tried(0, 3, 3), 1);
    }

    private void triedFullRow() {
        due.about("TRIED and FORESEEN by a ROW of 40");
        LookAsideCache x = fresh();
        x.row(0, 40);
        for (int i = 0; i < 40; i++) {
            x.put(0, i, i / 20 * 9);
        }
        for (int policy = 0; policy < 4; policy++) {
            due.is("all but two", x.tried(0, 5, policy), 38);
        }
        due.is("foreseen", x.foreseen(0, 5), 38);
        x.put(0, 39, 8);
        due.is("the last is a miss", x.tried(0, 5, 0), 37);
        due.is("the last is a miss", x.foreseen(0, 5), 37);
        due.is("in thought", x.count(1) + x.count(7), 0);
    }

    private void triedByThatPolicy() {
        due.about("TRIED: the LEAST by that POLICY gives way");
        long[][] rows = {{3, 1, 2, 1, 0, 1}, {3, 2, 1, 3}, {2, 3, 2, 0, 3}, {2, 3, 1, 2}};
        int[][] hits = {{2, 0, 1, 1}, {0, 1, 0, 0}, {1, 1, 2, 1}, {0, 0, 0, 1}};
        LookAsideCache x = threeWrites();
        for (int shelf = 0; shelf < 4; shelf++) {
            row(x, shelf, rows[shelf]);
            for (int setting = 0; setting < 4; setting++) {
                x.set(5, setting);
                for (int policy = 0; policy < 4; policy++) {
                    due.is("row " + shelf + " by " + policy, x.tried(shelf, 0, policy), hits[shelf][policy]);
                }
            }
        }
    }

    private static LookAsideCache threeWrites() {
        LookAsideCache x = fresh();
        x.set(0, 2);
        for (int key = 0; key < 3; key++) {
            x.write(5, key, 1);
        }
        return x;
    }

    private void bestOfEach() {
        due.about("31 best: the POLICY with the most HITS TRIED (of like ones the least)");
        LookAsideCache x = threeWrites();
        long[][] rows = {{3, 1, 2, 1, 0, 1}, {3, 2, 1, 3}, {2, 3, 2, 0, 3}, {2, 3, 1, 2}};
        for (int policy = 0; policy < 4; policy++) {
            row(x, policy, rows[policy]);
            due.is("best of row " + policy, x.best(policy, 0), policy);
            due.is("foreseen is no less", x.foreseen(policy, 0), x.tried(policy, 0, policy));
        }
        row(x, 0, 1, 1, 1);
        due.is("all alike", x.best(0, 0), 0);
        row(x, 0, 2, 2, 3, 1, 2);
        due.is("1 and 3 alike", x.tried(0, 0, 1) * 10 + x.tried(0, 0, 3), 22);
        due.is("0 and 2 less", x.tried(0, 0, 0) * 10 + x.tried(0, 0, 2), 11);
        due.is("the least", x.best(0, 0), 1);
    }

    private void foreseenTillNoKey() {
        due.about("FORESEEN: of an empty ROW, of one without a KEY");
        LookAsideCache x = fresh();
        for (int key = 0; key < 4; key++) {
            load(x, 2, key);
        }
        x.row(0, 0);
        due.is("none", x.foreseen(0, 2), 0);
        row(x, 0, 10, 0, 1);
        due.is("none ahead", x.foreseen(0, 2), 0);
        row(x, 0, 3, 2, 1, 0, -1, 0);
        due.is("all there", x.foreseen(0, 2), 4);
    }

    private void foreseenRooms() {
        due.about("FORESEEN: ENTRIES go till fewer than ROOM are left (no more than these)");
        LookAsideCache x = fresh();
        x.row(0, 30);
        for (int i = 0; i < 30; i++) {
            x.put(0, i, i % 10);
        }
        for (int room = 1; room <= 8; room++) {
            x.set(0, room);
            due.is("room " + room, x.foreseen(0, 0), bestByTrying(room));
        }
    }

    /** Of 30 longs, 0 to 9 round and round: all sets of keys that may be there, with the most hits of each. */
    private static int bestByTrying(int room) {
        int[] most = new int[1 << 10];
        Arrays.fill(most, -1);
        most[0] = 0;
        for (int i = 0; i < 30; i++) {
            int bit = 1 << i % 10;
            int[] after = new int[1 << 10];
            Arrays.fill(after, -1);
            for (int there = 0; there < most.length; there++) {
                if (most[there] >= 0 && (there & bit) != 0) {
                    after[there] = Math.max(after[there], most[there] + 1);
                } else if (most[there] >= 0 && Integer.bitCount(there) < room) {
                    after[there | bit] = Math.max(after[there | bit], most[there]);
                } else if (most[there] >= 0) {
                    for (int key = 0; key < 10; key++) {
                        int left = there & ~(1 << key);
                        if (left != there) {
                            after[left | bit] = Math.max(after[left | bit], most[there]);
                        }
                    }
                }
            }
            most = after;
        }
        int best = 0;
        for (int hits : most) {
            best = Math.max(best, hits);
        }
        return best;
    }

    private void foreseenFromWhatIsThere() {
        due.about("FORESEEN: without ticks, from the ENTRIES that are there now");
        LookAsideCache x = fresh();
        x.set(0, 8);
        x.set(1, 1);
        for (int key = 0; key < 8; key++) {
            load(x, 5, key);
        }
        row(x, 0, 0, 1, 2, 3, 4, 5, 6, 7);
        due.is("all there, though they end at the next tick", x.foreseen(0, 5), 8);
        x.set(0, 1);
        due.is("a smaller room ends none by itself", x.foreseen(0, 5), 8);
        row(x, 0, 9, 0, 1);
        due.is("but one that comes leaves itself alone", x.foreseen(0, 5), 0);
        x.set(0, 2);
        due.is("and one more", x.foreseen(0, 5), 1);
        row(x, 0, 7, 9, 8, 7, 9, 8, 7);
        due.is("room 2", x.foreseen(0, 5), 3);
        x.set(0, 3);
        due.is("room 3", x.foreseen(0, 5), 5);
        due.is("another group", x.foreseen(0, 4), 4);
        x.set(0, 8);
        row(x, 0, 8, 9, 0, 1, 2, 3, 4, 5, 6, 7);
        due.is("two more than the room", x.foreseen(0, 5), 7);
        x.tick(1);
        due.is("gone", x.foreseen(0, 5), 0);
    }

    private void foreseenFullRow() {
        due.about("FORESEEN: a ROW of 40, the last one wanted");
        LookAsideCache x = fresh();
        x.set(0, 1);
        load(x, 0, 5);
        x.set(0, 2);
        x.row(0, 40);
        for (int i = 0; i < 39; i++) {
            x.put(0, i, i % 2 * 4 + 1);
        }
        x.put(0, 39, 9);
        due.is("all but two", x.foreseen(0, 0), 38);
        x.put(0, 38, 9);
        due.is("and its hit", x.foreseen(0, 0), 38);
    }

    private void countOneByOne() {
        due.about("44 count");
        LookAsideCache x = fresh();
        x.get(5, 9);
        int[] handAlone = {0, 0, 1, 0, 1, 0, 0, 0, 1};
        for (int what = 0; what < 9; what++) {
            due.is("a hand and a lease " + what, x.count(what), handAlone[what]);
        }
        x.look(5);
        x.fill(5);
        int[] entryAlone = {0, 1, 0, 0, 0, 0, 0, 0, 3};
        for (int what = 0; what < 9; what++) {
            due.is("an entry " + what, x.count(what), entryAlone[what]);
        }
        x.write(5, 9, 9);
        x.write(4, 9, 9);
        x.write(3, 0, 9);
        x.cold(5, 1);
        int[] markers = {3, 0, 0, 2, 0, 0, 0, 0, 7};
        for (int what = 0; what < 9; what++) {
            due.is("markers " + what, x.count(what), markers[what]);
        }
        for (int c = 0; c < 6; c++) {
            plan(x, c, "look");
            due.is("plans", x.count(6), c + 1);
        }
        plan(x, 0, "fill");
        due.is("the same client's", x.count(6), 6);
        x.feed(0);
        due.is("the tape", x.count(5), 1);
    }

    private void countHands() {
        due.about("44 count: CLIENTS with a HAND, and nothing else");
        LookAsideCache x = fresh();
        for (int key : new int[] {0, 9}) {
            for (int c = 0; c < 6; c++) {
                load(x, c, key);
            }
        }
        while (x.count(0) < 60) {
            x.write(x.count(0) % 6, x.count(0) % 2 * 9, 9);
        }
        due.is("none, though all is written", x.count(4), 0);
        due.is("old copies", x.beside(0, 0, 1), 5);
        for (int c = 0; c < 6; c++) {
            x.get(c, 5);
            due.is("one more", x.count(4), c + 1);
        }
    }
}
