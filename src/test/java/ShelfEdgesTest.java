/** The edges of SHELVES: promises 37 to 41. */
public final class ShelfEdgesTest extends Steps {
    private final Due due = new Due();

    public static void main(String[] args) {
        ShelfEdgesTest t = new ShelfEdgesTest();
        t.rowSizes();
        t.rowAnew();
        t.rowRefused();
        t.putPlaces();
        t.putAnyLong();
        t.shelvesApart();
        t.saveByKeys();
        t.savePlaces();
        t.saveNone();
        t.saveAllOrNone();
        t.saveWhatIsThere();
        t.saveOfThisGroupAlone();
        t.restorePlaces();
        t.restoreOfNone();
        t.restoreEachLong();
        t.restoreNoneSuch();
        t.restoreEndsAhead();
        t.restoreFills();
        t.restoreGivesWay();
        t.restoreInACycle();
        t.due.end();
    }

    private void rowSizes() {
        due.about("a ROW of longs (0 .. 40; 0 at first)");
        for (int n = 0; n <= 40; n++) {
            LookAsideCache x = fresh();
            due.is("row of " + n, x.row(n % 4, n), 1);
            for (int i = -1; i <= 41; i++) {
                due.is("element " + i + " of " + n, x.element(n % 4, i), i >= 0 && i < n ? 0 : NO_ELEMENT);
            }
            due.is("put at the last", x.put(n % 4, n - 1, 5), n > 0 ? 1 : NO_PLACE);
            due.is("put behind it", x.put(n % 4, n, 5), NO_PLACE);
        }
        LookAsideCache x = fresh();
        due.is("41", x.row(0, 41), BAD);
        due.is("-1", x.row(0, -1), BELOW_0);
        due.is("still nothing", x.element(0, 0), NO_ELEMENT);
        due.is("still nothing", x.put(0, 0, 5), NOTHING);
    }

    private void rowAnew() {
        due.about("A SHELF holds a ROW of n longs: 0 at first");
        LookAsideCache x = fresh();
        x.row(2, 40);
        for (int i = 0; i < 40; i++) {
            x.put(2, i, -1 - i);
        }
        due.is("a shorter one", x.row(2, 1), 1);
        due.is("0 at first", x.element(2, 0), 0);
        due.is("no more places", x.element(2, 1), NO_ELEMENT);
        due.is("a longer one", x.row(2, 40), 1);
        for (int i = 0; i < 40; i++) {
            due.is("0 at first", x.element(2, i), 0);
        }
        due.is("none at all", x.row(2, 0), 1);
        due.is("no place", x.put(2, 0, 1), NO_PLACE);
    }

    private void rowRefused() {
        due.about("row, refused: the ROW stays");
        LookAsideCache x = fresh();
        row(x, 0, 7, 8);
        int[] sizes = {-1, 41, Integer.MIN_VALUE, Integer.MAX_VALUE};
        int[] answers = {BELOW_0, BAD, BELOW_0, BAD};
        for (int i = 0; i < 4; i++) {
            due.is("size " + sizes[i], x.row(0, sizes[i]), answers[i]);
            due.is("no such shelf goes ahead", x.row(4, sizes[i]), BAD);
            due.is("no such shelf goes ahead", x.row(-1, sizes[i]), BAD);
            due.is("first", x.element(0, 0), 7);
            due.is("last", x.element(0, 1), 8);
        }
    }

    private void putPlaces() {
        due.about("put, element: BAD; -11; -13");
        LookAsideCache x = fresh();
        x.row(1, 40);
        for (int i : new int[] {-1, 40, Integer.MIN_VALUE, Integer.MAX_VALUE}) {
            due.is("no shelf", x.put(4, i, 1), BAD);
            due.is("no shelf", x.put(-1, i, 1), BAD);
            due.is("nothing there", x.put(0, i, 1), NOTHING);
            due.is("no place", x.put(1, i, 1), NO_PLACE);
            due.is("no element", x.element(1, i), NO_ELEMENT);
            due.is("no element", x.element(0, i), NO_ELEMENT);
            due.is("no element", x.element(4, i), NO_ELEMENT);
        }
        due.is("first", x.put(1, 0, 10), 1);
        due.is("last", x.put(1, 39, 49), 1);
        for (int i = 0; i < 40; i++) {
            due.is("element " + i, x.element(1, i), i == 0 ? 10 : i == 39 ? 49 : 0);
        }
    }

    private void putAnyLong() {
        due.about("put: any long");
        LookAsideCache x = fresh();
        x.row(3, 1);
        for (long v : new long[] {Long.MIN_VALUE, Long.MAX_VALUE, -1, 0, 1L << 32, Integer.MIN_VALUE}) {
            due.is("put", x.put(3, 0, v), 1);
            due.is("element", x.element(3, 0), v);
        }
    }

    private void shelvesApart() {
        due.about("SHELVES 0 .. 3 hold nothing (at first)");
        LookAsideCache x = fresh();
        for (int s = 0; s < 4; s++) {
            due.is("nothing", x.put(s, 0, 1), NOTHING);
            due.is("nothing", x.save(s, 0, 0), NOTHING);
            due.is("nothing", x.restore(s, 0, 0, 0), NOTHING);
            due.is("nothing", x.tried(s, 0, 0), NOTHING);
            due.is("nothing", x.best(s, 0), NOTHING);
            due.is("nothing", x.foreseen(s, 0), NOTHING);
        }
        for (int s = 0; s < 4; s++) {
            x.row(s, s + 1);
            x.put(s, s, 100 + s);
            for (int other = s + 1; other < 4; other++) {
                due.is("still nothing", x.put(other, 0, 1), NOTHING);
            }
        }
        for (int s = 0; s < 4; s++) {
            due.is("its own", x.element(s, s), 100 + s);
            due.is("no more", x.element(s, s + 1), NO_ELEMENT);
        }
    }

    // ---- save

    private void saveByKeys() {
        due.about("SAVED: of each ENTRY of a GROUP, by KEYS: VERSION * 1000000 + KEY * 1000 + VALUE");
        LookAsideCache x = fresh();
        x.set(0, 8);
        for (int n = 0; n < 58; n++) {
            x.write(5, 1, 1);
        }
        x.write(5, 9, 999);
        x.write(5, 0, 999);
        int[] keys = {9, 4, 0, 1};
        for (int key : keys) {
            load(x, 0, key);
        }
        load(x, 1, 5);
        x.row(0, 4);
        due.is("four", x.save(0, 0, 0), 4);
        due.is("key 0", x.element(0, 0), 60000999);
        due.is("key 1", x.element(0, 1), 58001001);
        due.is("key 4", x.element(0, 2), 4000);
        due.is("key 9", x.element(0, 3), 59009999);
        due.is("the entries stay", x.count(1), 5);
        due.is("no hits", x.entry(0, 9, 4), 0);
    }

    private void savePlaces() {
        due.about("save: -13");
        LookAsideCache x = fresh();
        for (int key = 0; key < 3; key++) {
            load(x, 0, key);
        }
        for (int n = 0; n <= 6; n++) {
            x.row(0, n);
            for (int i = -1; i <= 7; i++) {
                due.is("at " + i + " of " + n, x.save(0, i, 0), i >= 0 && i + 3 <= n ? 3 : NO_PLACE);
            }
            due.is("wrap-around", x.save(0, Integer.MAX_VALUE, 0), NO_PLACE);
            due.is("wrap-around", x.save(0, Integer.MAX_VALUE - 2, 0), NO_PLACE);
            due.is("wrap-around", x.save(0, Integer.MIN_VALUE, 0), NO_PLACE);
        }
        x.row(0, 40);
        due.is("at the end of 40", x.save(0, 37, 0), 3);
        due.is("the last", x.element(0, 39), 2000);
        due.is("past it", x.save(0, 38, 0), NO_PLACE);
    }

    private void saveNone() {
        due.about("save: -13 with none to write, too, if i is none of 0 .. its size");
        LookAsideCache x = fresh();
        for (int n = 0; n <= 40; n += 20) {
            x.row(0, n);
            due.is("at 0", x.save(0, 0, 3), 0);
            due.is("at its size", x.save(0, n, 3), 0);
            due.is("past it", x.save(0, n + 1, 3), NO_PLACE);
            due.is("ahead", x.save(0, -1, 3), NO_PLACE);
            due.is("wrap-around", x.save(0, Integer.MAX_VALUE, 3), NO_PLACE);
            due.is("wrap-around", x.save(0, Integer.MIN_VALUE, 3), NO_PLACE);
        }
    }

    private void saveAllOrNone() {
        due.about("save: how many (all, or none)");
        LookAsideCache x = fresh();
        x.write(0, 1, 1);
        x.write(0, 2, 2);
        load(x, 0, 1);
        load(x, 0, 2);
        row(x, 0, -1, -2, -3);
        due.is("no place", x.save(0, 2, 0), NO_PLACE);
        for (int i = 0; i < 3; i++) {
            due.is("none is written", x.element(0, i), -1 - i);
        }
        due.is("all", x.save(0, 1, 0), 2);
        due.is("ahead", x.element(0, 0), -1);
        due.is("first", x.element(0, 1), 1001001);
        due.is("second", x.element(0, 2), 2002002);
        due.is("no act", x.count(8), 8);
    }

    private void saveWhatIsThere() {
        due.about("SAVED: of each ENTRY that is there");
        LookAsideCache x = fresh();
        x.set(1, 3);
        load(x, 4, 0);
        x.tick(1);
        load(x, 4, 9);
        load(x, 4, 5);
        x.write(4, 5, 5);
        x.get(4, 7);
        x.row(0, 2);
        due.is("two", x.save(0, 0, 4), 2);
        x.tick(2);
        x.row(0, 2);
        due.is("one is gone", x.save(0, 1, 4), 1);
        due.is("the other", x.element(0, 1), 9000);
        x.tick(1);
        due.is("both", x.save(0, 2, 4), 0);
    }

    private void saveOfThisGroupAlone() {
        due.about("SAVED: of each ENTRY of a GROUP");
        for (int g = 0; g < 6; g++) {
            LookAsideCache x = fresh();
            for (int c = 0; c < 6; c++) {
                if (c != g) {
                    load(x, c, 0);
                    load(x, c, 9);
                }
            }
            row(x, 0, -1, -2, -3);
            due.is("none of the others'", x.save(0, 1, g), 0);
            load(x, g, 4);
            due.is("one", x.save(0, 1, g), 1);
            due.is("ahead", x.element(0, 0), -1);
            due.is("its own", x.element(0, 1), 4000);
            due.is("behind", x.element(0, 2), -3);
        }
    }

    // ---- restore

    private void restorePlaces() {
        due.about("restore: n (0 .. 10); -13: the ROW has no such places");
        for (int size : new int[] {0, 1, 9, 10, 11, 40}) {
            LookAsideCache x = fresh();
            x.row(0, size);
            for (int n = -1; n <= 11; n++) {
                boolean may = n >= 0 && n <= 10;
                int fits = n <= size ? n : NO_PLACE;
                due.is(n + " of " + size, x.restore(0, 0, n, 0), may ? fits : BAD);
                due.is("at the end", x.restore(0, size - n, n, 0), may ? fits : BAD);
                due.is("past the end", x.restore(0, size - n + 1, n, 0), may ? NO_PLACE : BAD);
                due.is("ahead", x.restore(0, -1, n, 0), may ? NO_PLACE : BAD);
                due.is("wrap-around", x.restore(0, Integer.MAX_VALUE, n, 0), may ? NO_PLACE : BAD);
                due.is("wrap-around", x.restore(0, Integer.MIN_VALUE, n, 0), may ? NO_PLACE : BAD);
                due.is("nothing there", x.restore(1, 0, n, 0), may ? NOTHING : BAD);
            }
        }
    }

    private void restoreOfNone() {
        due.about("restore of none");
        LookAsideCache x = fresh();
        x.row(0, 0);
        due.is("of an empty row", x.restore(0, 0, 0, 5), 0);
        due.is("an act", x.count(8), 1);
        row(x, 0, 5000);
        due.is("at the end", x.restore(0, 1, 0, 5), 0);
        due.is("an act", x.count(8), 2);
        due.is("past the end", x.restore(0, 2, 0, 5), NO_PLACE);
        due.is("no act", x.count(8), 2);
        due.is("nothing came", x.count(1), 0);
    }

    private void restoreEachLong() {
        due.about("RESTORED: KEY 0 .. 9, VALUE 0 .. 999, VERSION that of a WRITE of just that, or 0 with VALUE 0");
        for (int key = 0; key < 10; key++) {
            for (int value : new int[] {0, 1, 999}) {
                LookAsideCache x = fresh();
                x.write(5, (key + 1) % 10, value);
                x.write(5, key, value);
                row(x, 0, 2000000 + key * 1000 + value, key * 1000);
                due.is("a write's", x.restore(0, 0, 1, 3), 1);
                due.is("value", x.entry(3, key, 0), value);
                due.is("version", x.entry(3, key, 1), 2);
                due.is("version 0", x.restore(0, 1, 1, 3), 1);
                due.is("value 0", x.entry(3, key, 0), 0);
                due.is("version 0", x.entry(3, key, 1), 0);
                due.is("one entry", x.count(1), 1);
            }
        }
        LookAsideCache x = fresh();
        for (int n = 1; n <= 60; n++) {
            x.write(5, 9, n + 900);
        }
        row(x, 0, 60009960, 61009961, 1009901);
        due.is("the 60th", x.restore(0, 0, 1, 0), 1);
        due.is("no 61st", x.restore(0, 1, 1, 0), 0);
        due.is("the first", x.restore(0, 2, 1, 0), 1);
    }

    private void restoreNoneSuch() {
        due.about("RESTORED: it ends ahead of one that is none such");
        long[] none = {-1, -999, -1000, -1000000, -2001011, Long.MIN_VALUE, Long.MAX_VALUE, 1, 999, 1001, 10000, 11000, 999000,
            999999, 1000000, 1000011, 1001010, 1001012, 1002011, 1010011, 1011011, 1001999, 2001011, 2002023, 2012022, 3001011,
            3000000, 3002022, 61001011, (1L << 32) * 1000000 + 1001011, (1L << 32) + 1001011, 1001011 - (1L << 32)};
        for (long bad : none) {
            LookAsideCache x = fresh();
            x.write(5, 1, 11);
            x.write(5, 2, 22);
            row(x, 0, bad, 3000);
            due.is("none such: " + bad, x.restore(0, 0, 2, 1), 0);
            due.is("nothing came", x.count(1), 0);
            due.is("nothing is led", x.led(4), 0);
            due.is("an act", x.count(8), 3);
        }
    }

    private void restoreEndsAhead() {
        due.about("RESTORED: one by one, how many");
        for (int good = 0; good <= 10; good++) {
            LookAsideCache x = fresh();
            x.set(0, 8);
            x.row(0, 12);
            for (int i = 0; i < 12; i++) {
                x.put(0, i, i == good + 1 ? 10000 : i % 10 * 1000);
            }
            due.is("till the " + good + "th", x.restore(0, 1, 10, 2), good);
            due.is("as many entries", x.count(1), Math.min(good, 8));
            due.is("as many fills", x.led(4), good);
        }
    }

    private void restoreFills() {
        due.about("RESTORED: FILL the GROUP (as a FILL that isn't refused)");
        LookAsideCache x = fresh();
        x.write(0, 1, 11);
        load(x, 0, 1);
        x.write(0, 1, 12);
        x.get(0, 1);
        x.look(0);
        x.tick(3);
        row(x, 0, 1001011);
        due.is("done", x.restore(0, 0, 1, 0), 1);
        int[] parts = {11, 1, 3, 3, 0, 53};
        for (int what = 0; what < 6; what++) {
            due.is("part " + what, x.entry(0, 1, what), parts[what]);
        }
        due.is("the lease ends", x.beside(0, 1, 2), NOT);
        due.is("the old copy ends", x.beside(0, 1, 0), NOT);
        due.is("the hand stays", x.client(0, 4), 12);
        due.is("its fill is late", x.fill(0), 0);
        due.is("led as a fill", x.led(4), 2);
        x.cold(1, 1);
        x.write(1, 1, 13);
        due.is("a hold-off doesn't matter", x.restore(0, 0, 1, 1), 1);
        due.is("it stays", x.beside(1, 1, 5), 5);
        due.is("no lease is asked for", x.restore(0, 0, 1, 5), 1);
        due.is("outdated or not", x.entry(5, 1, 0), 11);
    }

    private void restoreGivesWay() {
        due.about("RESTORED: what gave way");
        for (int room = 1; room <= 8; room++) {
            LookAsideCache x = fresh();
            x.set(0, room);
            x.row(0, 10);
            for (int i = 0; i < 10; i++) {
                x.put(0, i, 9000 - i * 1000);
            }
            due.is("all", x.restore(0, 0, 10, 4), 10);
            due.is("room", x.count(1), room);
            due.is("gave way", x.led(7), 10 - room);
            due.is("the last stays", x.entry(4, 0, 0), 0);
            due.is("the least of like ones went", x.entry(4, 9, 0), room > 1 ? 0 : NOT);
        }
        LookAsideCache x = fresh();
        x.set(0, 2);
        load(x, 0, 1);
        load(x, 0, 2);
        x.get(0, 1);
        x.set(5, 1);
        row(x, 0, 3000);
        x.restore(0, 0, 1, 0);
        due.is("by POLICY", x.entry(0, 2, 0), NOT);
        due.is("no old copy", x.beside(0, 2, 0), NOT);
        row(x, 0, 3000, 3000, 3000);
        x.restore(0, 0, 3, 0);
        due.is("its own ends first", x.led(7), 1);
    }

    private void restoreInACycle() {
        due.about("what was SAVED may be RESTORED");
        LookAsideCache x = fresh();
        x.set(0, 8);
        for (int key = 0; key < 8; key++) {
            x.write(5, key, 990 + key);
            load(x, 0, key);
        }
        x.row(3, 9);
        due.is("saved", x.save(3, 1, 0), 8);
        due.is("restored", x.restore(3, 1, 8, 1), 8);
        for (int key = 0; key < 8; key++) {
            due.is("value", x.entry(1, key, 0), 990 + key);
            due.is("version", x.entry(1, key, 1), key + 1);
        }
        x.row(2, 9);
        x.save(2, 1, 1);
        for (int i = 0; i < 9; i++) {
            due.is("the same longs", x.element(2, i), x.element(3, i));
        }
        due.is("with the 0 ahead: version 0 of key 0", x.restore(3, 0, 1, 1), 1);
        due.is("value", x.entry(1, 0, 1), 0);
    }
}
