/** For each promise of the document: ordinary inputs, the edges that it names, wrong inputs. */
public final class PromisesTest extends Steps {
    private static final int[] NO_CLIENT = {-1, 6, Integer.MIN_VALUE, Integer.MAX_VALUE};
    private static final int[] NO_KEY = {-1, 10, Integer.MIN_VALUE, Integer.MAX_VALUE};
    private static final int[] NO_REGION = {-1, 3, Integer.MIN_VALUE, Integer.MAX_VALUE};
    private static final int[] NO_SHELF = {-1, 4, Integer.MIN_VALUE, Integer.MAX_VALUE};

    private final Due due = new Due();

    public static void main(String[] args) {
        PromisesTest t = new PromisesTest();
        t.newObject();
        t.getHitsAndLeases();
        t.getBesideALease();
        t.getWithoutLeases();
        t.look();
        t.fill();
        t.fillGivesWay();
        t.write();
        t.deletedKeys();
        t.apply();
        t.tick();
        t.cold();
        t.go();
        t.set();
        t.next();
        t.undoAndRedo();
        t.undoLimits();
        t.setting();
        t.entry();
        t.beside();
        t.client();
        t.store();
        t.region();
        t.within();
        t.least();
        t.outdated();
        t.lag();
        t.own();
        t.dues();
        t.hottest();
        t.led();
        t.storm();
        t.stormEdges();
        t.settled();
        t.tried();
        t.best();
        t.foreseen();
        t.feed();
        t.plan();
        t.planFaults();
        t.orders();
        t.ordersRefused();
        t.witness();
        t.row();
        t.put();
        t.element();
        t.save();
        t.restore();
        t.imageAndBack();
        t.count();
        t.due.end();
    }

    // ---- acts

    private void newObject() {
        due.about("1 new object");
        LookAsideCache x = fresh();
        for (int what = 0; what <= 8; what++) {
            due.is("count " + what, x.count(what), 0);
        }
        for (int c = 0; c < 6; c++) {
            due.is("client " + c, x.client(c, 0), c);
            due.is("hand of " + c, x.client(c, 1), NOT);
        }
        for (int what = 0; what <= 9; what++) {
            due.is("led " + what, x.led(what), 0);
        }
        for (int k = 0; k < 10; k++) {
            due.is("store " + k, x.store(0, k, 0), 0);
            due.is("version " + k, x.store(2, k, 1), 0);
        }
        for (int g = 0; g < 6; g++) {
            due.is("warm " + g, x.cold(g, 0), 0);
        }
        due.is("no row", x.put(0, 0, 1), -11);
        due.is("no image", x.back(), STATE);
        due.is("no plan", x.orders(1, 0, 0), BAD);
    }

    private void getHitsAndLeases() {
        due.about("2 get");
        LookAsideCache x = fresh();
        for (int c : NO_CLIENT) {
            due.is("no client", x.get(c, 0), BAD);
        }
        for (int k : NO_KEY) {
            due.is("no key", x.get(0, k), BAD);
        }
        due.is("nothing noted", x.count(8), 0);
        x.write(0, 2, 999);
        due.is("miss", x.get(0, 2), LEASED);
        due.is("token", x.client(0, 2), 1);
        due.is("lease's token", x.beside(0, 2, 3), 1);
        due.is("lease's client", x.beside(0, 2, 2), 0);
        due.is("lease's end", x.beside(0, 2, 4), 6);
        x.look(0);
        x.fill(0);
        x.tick(3);
        due.is("hit", x.get(0, 2), 999);
        due.is("used", x.entry(0, 2, 3), 3);
        due.is("born", x.entry(0, 2, 2), 0);
        due.is("hits", x.entry(0, 2, 4), 1);
        due.is("hit again", x.get(0, 2), 999);
        due.is("hits", x.entry(0, 2, 4), 2);
        due.is("another group misses", x.get(1, 2), LEASED);
        due.is("token", x.client(1, 2), 2);
        due.is("another key: another hand", x.get(1, 3), LEASED);
        due.is("hand's key", x.client(1, 1), 3);
        due.is("hand's token", x.client(1, 2), 3);
        due.is("one hand", x.count(4), 1);
        due.is("two leases", x.count(2), 2);
        due.is("its own lease", x.get(1, 2), LEASED);
        due.is("nothing changes", x.client(1, 1), 3);
        due.is("no new lease", x.count(2), 2);
        due.is("not counted", x.led(1), 3);
        x.tick(6);
        due.is("lease is gone", x.get(1, 2), LEASED);
        due.is("a new one", x.client(1, 2), 4);
        x.look(1);
        x.tick(6);
        x.get(1, 2);
        due.is("a new hand hasn't looked", x.client(1, 3), 0);
    }

    private void getBesideALease() {
        due.about("2 get beside a lease");
        LookAsideCache x = fresh();
        x.go(1, 0);
        x.get(0, 4);
        due.is("waits", x.get(1, 4), WAITS);
        due.is("no hand", x.client(1, 1), NOT);
        x.look(0);
        x.fill(0);
        x.write(0, 4, 5);
        due.is("old copy of 0", x.beside(0, 4, 0), 0);
        due.is("leased", x.get(0, 4), LEASED);
        due.is("old one", x.get(1, 4), 1000);
        due.is("own lease", x.get(0, 4), LEASED);
        x.tick(4);
        due.is("old one still", x.get(1, 4), 1000);
        x.tick(1);
        due.is("old one is gone", x.get(1, 4), WAITS);
        x.tick(1);
        due.is("lease is gone", x.get(1, 4), LEASED);
        due.is("led 1000", x.led(3), 2);
        x.look(1);
        x.fill(1);
        x.write(1, 4, 6);
        x.get(1, 4);
        due.is("an old one of 5", x.get(0, 4), 1005);
        due.is("led waits", x.led(2), 2);
    }

    private void getWithoutLeases() {
        due.about("2 get without leases");
        LookAsideCache x = fresh();
        x.get(0, 1);
        x.set(6, 0);
        x.go(1, 0);
        due.is("lease is not looked at", x.get(1, 1), LEASED);
        due.is("token 0", x.client(1, 2), 0);
        due.is("lease stays", x.beside(0, 1, 2), 0);
        due.is("key without lease", x.get(1, 2), LEASED);
        due.is("no lease", x.beside(0, 2, 2), NOT);
        due.is("counted", x.led(1), 3);
        x.look(1);
        x.get(1, 2);
        due.is("hand anew", x.client(1, 3), 0);
        x.set(6, 1);
        x.get(1, 5);
        due.is("tokens go on", x.client(1, 2), 2);
    }

    private void look() {
        due.about("3 look");
        LookAsideCache x = fresh();
        for (int c : NO_CLIENT) {
            due.is("no client", x.look(c), BAD);
        }
        due.is("no hand", x.look(2), STATE);
        x.write(0, 1, 11);
        x.get(2, 1);
        due.is("store 1 has none", x.look(2), 0);
        due.is("version", x.client(2, 5), 0);
        due.is("load of 1", x.region(1, 2), 1);
        x.apply(1);
        due.is("again, anew", x.look(2), 11);
        due.is("version", x.client(2, 5), 1);
        due.is("no neighbour", x.client(2, 6), 0);
        x.write(3, 1, 12);
        due.is("marker sends home", x.look(2), 12);
        due.is("load of 0", x.region(0, 2), 1);
        due.is("load of 1", x.region(1, 2), 2);
        x.get(4, 1);
        due.is("no marker in region 2", x.look(4), 0);
        x.get(0, 1);
        due.is("home", x.look(0), 12);

        x = fresh();
        x.write(0, 1, 11);
        load(x, 0, 1);
        x.write(1, 1, 12);
        x.get(1, 1);
        due.is("a warm group looks at the store", x.look(1), 12);
        x.cold(1, 1);
        due.is("a cold one at its neighbour", x.look(1), 11);
        due.is("from the neighbour", x.client(1, 6), 1);
        due.is("version", x.client(1, 5), 1);
        due.is("neither hits", x.entry(0, 1, 4), 0);
        due.is("led", x.led(6), 1);
        due.is("no load", x.region(0, 2), 2);
        x.tick(1);
        x.look(1);
        due.is("nor used", x.entry(0, 1, 3), 0);
        x.get(1, 2);
        due.is("neighbour has none", x.look(1), 0);
        due.is("from the store", x.client(1, 6), 0);
        x.cold(0, 1);
        x.get(1, 1);
        due.is("neighbour is cold", x.look(1), 12);
    }

    private void fill() {
        due.about("4 fill");
        LookAsideCache x = fresh();
        for (int c : NO_CLIENT) {
            due.is("no client", x.fill(c), BAD);
        }
        due.is("no hand", x.fill(0), STATE);
        x.get(0, 1);
        due.is("not looked", x.fill(0), STATE);
        x.look(0);
        due.is("done", x.fill(0), 1);
        due.is("hand ends", x.fill(0), STATE);
        due.is("lease ends", x.beside(0, 1, 2), NOT);
        due.is("value", x.entry(0, 1, 0), 0);
        due.is("end", x.entry(0, 1, 5), 50);
        x.get(0, 1);
        x.write(0, 1, 5);
        load(x, 0, 1);
        due.is("no hits", x.entry(0, 1, 4), 0);

        x.get(0, 2);
        x.look(0);
        x.tick(6);
        due.is("its lease has run out", x.fill(0), 0);
        due.is("hand ends", x.client(0, 1), NOT);
        due.is("refused", x.led(5), 1);
        due.is("no entry", x.entry(0, 2, 0), NOT);

        x.get(0, 2);
        x.look(0);
        x.tick(6);
        x.go(1, 0);
        x.get(1, 2);
        due.is("another's lease", x.fill(0), 0);
        due.is("which stays", x.beside(0, 2, 2), 1);

        x = fresh();
        x.set(6, 0);
        x.get(0, 2);
        x.look(0);
        x.write(0, 2, 8);
        due.is("without leases a late fill is done", x.fill(0), 1);
        due.is("stale", x.entry(0, 2, 0), 0);
        x.get(0, 3);
        x.look(0);
        x.set(6, 1);
        due.is("token 0 is no lease's", x.fill(0), 0);

        x = fresh();
        x.go(1, 0);
        load(x, 0, 1);
        x.write(0, 1, 5);
        x.get(0, 1);
        x.look(0);
        due.is("old copy ahead", x.beside(0, 1, 0), 0);
        x.fill(0);
        due.is("old copy ends", x.beside(0, 1, 0), NOT);

        x = fresh();
        x.write(0, 1, 11);
        load(x, 0, 1);
        x.cold(1, 1);
        x.write(1, 1, 12);
        x.get(1, 1);
        x.look(1);
        due.is("hold-off", x.fill(1), 0);
        due.is("its lease stays", x.beside(1, 1, 2), 1);
        x.tick(2);
        due.is("own lease, no hand", x.get(1, 1), LEASED);
        due.is("own lease, no hand", x.look(1), STATE);
        x.tick(4);
        x.get(1, 1);
        x.look(1);
        due.is("hold-off is gone", x.fill(1), 1);
        due.is("of the neighbour", x.entry(1, 1, 0), 11);
        x.cold(0, 1);
        x.write(1, 2, 13);
        x.get(1, 2);
        x.look(1);
        due.is("from a store the hold-off doesn't matter", x.fill(1), 1);
    }

    private void fillGivesWay() {
        due.about("4 fill, full");
        LookAsideCache x = fresh();
        for (int k = 0; k < 4; k++) {
            load(x, 0, k);
            x.tick(1);
        }
        x.get(0, 0);
        load(x, 0, 4);
        due.is("least used goes", x.entry(0, 1, 0), NOT);
        due.is("no old copy", x.beside(0, 1, 0), NOT);
        due.is("gave way", x.led(7), 1);
        due.is("not deleted", x.led(8), 0);
        due.is("room", x.count(1), 4);
        x.set(0, 2);
        due.is("nothing goes by the setting", x.count(1), 4);
        x.set(5, 2);
        load(x, 0, 5);
        due.is("as many as it takes", x.count(1), 2);
        due.is("by born", x.entry(0, 4, 0), 0);
        due.is("gave way", x.led(7), 4);
        x.set(6, 0);
        x.get(0, 6);
        x.look(0);
        x.go(1, 0);
        load(x, 1, 6);
        due.is("an entry of the key itself ends first", x.fill(0), 1);
        due.is("gave way", x.led(7), 5);
    }

    private void write() {
        due.about("5 write");
        LookAsideCache x = fresh();
        for (int c : NO_CLIENT) {
            due.is("no client", x.write(c, 0, 0), BAD);
        }
        for (int k : NO_KEY) {
            due.is("no key", x.write(0, k, 0), BAD);
        }
        due.is("no value", x.write(0, 0, -1), BAD);
        due.is("no value", x.write(0, 0, 1000), BAD);
        due.is("first", x.write(0, 9, 999), 1);
        due.is("home has no marker", x.store(0, 9, 2), NOT);
        due.is("second", x.write(5, 9, 0), 2);
        due.is("marker", x.store(2, 9, 2), 2);
        due.is("a newer one", x.write(4, 9, 4), 3);
        due.is("marker", x.store(2, 9, 2), 3);
        due.is("one marker", x.count(3), 1);
        for (int n = 4; n <= 60; n++) {
            due.is("number", x.write(1, 0, n), n);
        }
        due.is("full", x.write(1, 0, 1), FULL);
        due.is("BAD goes ahead", x.write(1, 10, 1), BAD);
        due.is("60", x.count(0), 60);
    }

    private void deletedKeys() {
        due.about("5 DELETED");
        LookAsideCache x = fresh();
        x.write(0, 1, 11);
        load(x, 0, 1);
        load(x, 1, 1);
        x.tick(1);
        x.write(0, 1, 12);
        due.is("ends in its group", x.entry(0, 1, 0), NOT);
        due.is("old copy", x.beside(0, 1, 0), 11);
        due.is("old copy's end", x.beside(0, 1, 1), 6);
        due.is("not in the other", x.entry(1, 1, 0), 11);
        due.is("warm: no hold-off", x.beside(0, 1, 5), NOT);
        due.is("led", x.led(8), 1);
        x.tick(1);
        x.write(0, 1, 13);
        due.is("without entry the old copy stays", x.beside(0, 1, 1), 6);
        x.get(0, 1);
        x.write(0, 1, 14);
        due.is("lease ends", x.beside(0, 1, 3), NOT);
        due.is("led", x.led(9), 1);
        x.set(2, 0);
        x.write(1, 1, 15);
        due.is("KEEP 0", x.beside(1, 1, 0), NOT);
        due.is("ends", x.entry(1, 1, 0), NOT);

        x = fresh();
        x.cold(0, 1);
        x.write(0, 1, 1);
        due.is("hold-off without entry", x.beside(0, 1, 5), 2);
        x.tick(1);
        x.write(0, 1, 1);
        due.is("anew", x.beside(0, 1, 5), 3);
        x.set(4, 0);
        x.write(0, 1, 1);
        due.is("HOLD 0: the earlier one ends", x.beside(0, 1, 5), NOT);
    }

    private void apply() {
        due.about("6 apply");
        LookAsideCache x = fresh();
        for (int r : NO_REGION) {
            due.is("no region", x.apply(r), BAD);
        }
        due.is("none", x.apply(0), NOT);
        x.write(2, 1, 11);
        x.write(2, 2, 21);
        x.write(3, 1, 12);
        load(x, 2, 2);
        load(x, 3, 2);
        load(x, 4, 2);
        due.is("first", x.apply(1), 1);
        due.is("store", x.store(1, 1, 0), 11);
        due.is("newer marker stays", x.store(1, 1, 2), 3);
        due.is("second", x.apply(1), 2);
        due.is("both groups", x.entry(2, 2, 0), NOT);
        due.is("both groups", x.entry(3, 2, 0), NOT);
        due.is("old copies", x.beside(3, 2, 0), 21);
        due.is("not abroad", x.entry(4, 2, 0), 0);
        due.is("marker goes", x.store(1, 2, 2), NOT);
        due.is("third", x.apply(1), 3);
        due.is("marker goes", x.store(1, 1, 2), NOT);
        due.is("no more", x.apply(1), NOT);
        due.is("place", x.region(1, 0), 3);
        due.is("home has its own", x.region(0, 0), 0);
        due.is("home", x.apply(0), 1);
        x.cold(5, 1);
        due.is("region 2", x.apply(2), 1);
        due.is("cold group holds off", x.beside(5, 1, 5), 2);
        due.is("warm one doesn't", x.beside(4, 1, 5), NOT);
    }

    private void tick() {
        due.about("7 tick");
        LookAsideCache x = fresh();
        for (int n : new int[] {0, -1, 51, Integer.MAX_VALUE, Integer.MIN_VALUE}) {
            due.is("no ticks", x.tick(n), BAD);
        }
        load(x, 0, 1);
        due.is("now", x.tick(49), 49);
        due.is("still there", x.entry(0, 1, 0), 0);
        due.is("now", x.tick(1), 50);
        due.is("gone at its end", x.entry(0, 1, 0), NOT);
        due.is("no old copy", x.beside(0, 1, 0), NOT);
        due.is("now", x.tick(50), 100);
    }

    private void cold() {
        due.about("8 cold");
        LookAsideCache x = fresh();
        for (int g : NO_CLIENT) {
            due.is("no group", x.cold(g, 0), BAD);
        }
        due.is("no v", x.cold(0, 2), BAD);
        due.is("no v", x.cold(0, -1), BAD);
        load(x, 0, 1);
        load(x, 0, 2);
        x.write(0, 2, 5);
        x.get(0, 3);
        load(x, 1, 1);
        due.is("was warm", x.cold(0, 1), 0);
        due.is("entries end", x.entry(0, 1, 0), NOT);
        due.is("old copies end", x.beside(0, 2, 0), NOT);
        due.is("leases end", x.beside(0, 3, 2), NOT);
        due.is("hands stay", x.client(0, 1), 3);
        due.is("not DELETED", x.led(8) * 10 + x.led(9), 10);
        due.is("the other group's stay", x.entry(1, 1, 0), 0);
        x.write(0, 4, 4);
        load(x, 0, 5);
        due.is("was cold", x.cold(0, 1), 1);
        due.is("nothing ends", x.entry(0, 5, 0), 0);
        due.is("nothing ends", x.beside(0, 4, 5), 2);
        due.is("becomes warm", x.cold(0, 0), 1);
        due.is("entries stay", x.entry(0, 5, 0), 0);
        due.is("hold-offs end", x.beside(0, 4, 5), NOT);
        due.is("was warm", x.cold(0, 0), 0);
    }

    private void go() {
        due.about("9 go");
        LookAsideCache x = fresh();
        for (int bad : NO_CLIENT) {
            due.is("no client", x.go(bad, 0), BAD);
            due.is("no group", x.go(0, bad), BAD);
        }
        x.get(0, 1);
        due.is("where it was", x.go(0, 5), 0);
        due.is("hand ends", x.client(0, 1), NOT);
        due.is("lease stays", x.beside(0, 1, 2), 0);
        due.is("group", x.client(0, 0), 5);
        due.is("counts as an act", x.count(8), 2);
        goToOwnGroup();
    }

    private void goToOwnGroup() {
        LookAsideCache x = fresh();
        x.get(0, 1);
        x.look(0);
        x.get(1, 2);
        due.is("its own", x.go(0, 0), 0);
        due.is("is where it was", x.client(0, 0), 0);
        due.is("hand ends at its own, too", x.client(0, 1), NOT);
        due.is("no look", x.look(0), STATE);
        due.is("no fill", x.fill(0), STATE);
        due.is("the other's hand stays", x.client(1, 1), 2);
        due.is("lease stays at its own", x.beside(0, 1, 2), 0);
        due.is("its own lease, no new hand", x.get(0, 1), LEASED);
        due.is("still no hand", x.client(0, 1), NOT);
        due.is("hands", x.count(4), 1);
        due.is("acts", x.count(8), 5);
        x.undo();
        due.is("one left to undo less", x.undo(), 3);
        due.is("hand is back", x.client(0, 3), 1);
        due.is("lookable again", x.look(0), 0);
    }

    private void set() {
        due.about("10 set");
        LookAsideCache x = fresh();
        int[] first = {4, 50, 5, 6, 2, 0, 1};
        int[] low = {1, 1, 0, 1, 0, 0, 0};
        int[] high = {8, 99, 20, 20, 20, 3, 1};
        for (int what = 0; what < 7; what++) {
            due.is("below", x.set(what, low[what] - 1), BAD);
            due.is("above", x.set(what, high[what] + 1), BAD);
            due.is("lowest " + what, x.set(what, low[what]), first[what]);
            due.is("highest " + what, x.set(what, high[what]), low[what]);
            due.is("now " + what, x.setting(what), high[what]);
        }
        due.is("no setting", x.set(7, 1), BAD);
        due.is("no setting", x.set(-1, 1), BAD);

        x = fresh();
        load(x, 0, 1);
        x.set(1, 9);
        due.is("an end stays as it was told", x.entry(0, 1, 5), 50);
        load(x, 0, 2);
        due.is("by the new life", x.entry(0, 2, 5), 9);
        x.set(3, 20);
        x.get(0, 3);
        due.is("by the new term", x.beside(0, 3, 4), 20);
        x.set(2, 7);
        x.write(0, 1, 1);
        due.is("by the new keep", x.beside(0, 1, 1), 7);
        x.cold(1, 1);
        x.set(4, 11);
        x.write(1, 1, 1);
        due.is("by the new hold", x.beside(1, 1, 5), 11);
    }

    private void next() {
        due.about("11 next");
        LookAsideCache x = fresh();
        due.is("none", x.next(), NOT);
        load(x, 0, 1);
        x.tick(5);
        x.get(0, 2);
        x.cold(2, 1);
        x.write(2, 3, 3);
        due.is("hold-off", x.next(), 7);
        due.is("is gone", x.beside(2, 3, 5), NOT);
        due.is("lease", x.next(), 11);
        due.is("entry", x.next(), 50);
        due.is("none", x.next(), NOT);
        x.undo();
        due.is("undone", x.count(7), 11);
    }

    private void undoAndRedo() {
        due.about("12, 13 undo, redo");
        LookAsideCache x = fresh();
        due.is("none", x.undo(), STATE);
        due.is("none", x.redo(), STATE);
        x.write(0, 1, 11);
        x.get(0, 1);
        x.look(0);
        x.fill(0);
        x.get(0, 1);
        due.is("undo the hit", x.undo(), 4);
        due.is("hits", x.entry(0, 1, 4), 0);
        due.is("ever", x.led(0), 0);
        due.is("undo the fill", x.undo(), 3);
        due.is("the hand is back", x.client(0, 4), 11);
        due.is("the lease is back", x.beside(0, 1, 3), 1);
        due.is("undo the look", x.undo(), 2);
        due.is("no load", x.region(0, 2), 0);
        due.is("undo the get", x.undo(), 1);
        due.is("redo the get", x.redo(), 3);
        due.is("refused acts leave what was undone", x.apply(1) + x.apply(1), 1 + NOT);
        due.is("but others end it", x.redo(), STATE);
        due.is("three", x.count(8), 3);

        x = fresh();
        x.get(0, 1);
        x.undo();
        due.is("refused", x.look(0), STATE);
        due.is("refused", x.get(0, 10), BAD);
        due.is("done again", x.redo(), 0);
        due.is("the lease", x.beside(0, 1, 3), 1);
        x.undo();
        x.get(0, 2);
        due.is("tokens as if it had never come", x.client(0, 2), 1);

        x = fresh();
        x.write(0, 1, 11);
        row(x, 0, 1001011);
        x.restore(0, 0, 1, 3);
        x.undo();
        due.is("undone", x.entry(3, 1, 0), NOT);
        x.put(0, 0, -1);
        x.row(0, 0);
        due.is("shelves are no act", x.redo(), 0);
        due.is("by the longs then", x.entry(3, 1, 0), 11);
    }

    private void undoLimits() {
        due.about("12, 13 limits");
        LookAsideCache x = fresh();
        for (int n = 1; n <= 45; n++) {
            x.tick(1);
        }
        due.is("30 at most", x.count(8), 30);
        for (int n = 29; n >= 0; n--) {
            due.is("undo", x.undo(), n);
        }
        due.is("no more", x.undo(), STATE);
        due.is("now", x.count(7), 15);
        for (int n = 29; n >= 0; n--) {
            due.is("redo", x.redo(), n);
        }
        due.is("no more", x.redo(), STATE);
        due.is("now", x.count(7), 45);
        x.undo();
        x.undo();
        x.tick(50);
        due.is("a new act", x.count(7), 93);
        due.is("counts", x.count(8), 29);
        x.undo();
        due.is("back to", x.count(7), 43);

        x = fresh();
        x.go(1, 0);
        x.get(0, 1);
        x.get(1, 1);
        x.get(0, 1);
        x.cold(3, 0);
        x.set(0, 4);
        due.is("acts that change nothing count", x.count(8), 6);
    }

    // ---- what there is

    private void setting() {
        due.about("14 setting");
        LookAsideCache x = fresh();
        int[] first = {4, 50, 5, 6, 2, 0, 1};
        for (int what = 0; what < 7; what++) {
            due.is("first " + what, x.setting(what), first[what]);
        }
        due.is("none", x.setting(7), BAD);
        due.is("none", x.setting(-1), BAD);
    }

    private void entry() {
        due.about("15 entry");
        LookAsideCache x = fresh();
        x.write(0, 1, 11);
        x.tick(2);
        load(x, 0, 1);
        x.tick(3);
        x.get(0, 1);
        int[] parts = {11, 1, 2, 5, 1, 52};
        for (int what = 0; what < 6; what++) {
            due.is("part " + what, x.entry(0, 1, what), parts[what]);
        }
        due.is("none", x.entry(0, 2, 0), NOT);
        due.is("no what", x.entry(0, 2, 6), BAD);
        due.is("no what", x.entry(0, 1, -1), BAD);
        due.is("no key", x.entry(0, 10, 0), BAD);
        due.is("no group", x.entry(6, 0, 0), BAD);
        due.is("no group", x.entry(-1, 0, 0), BAD);
    }

    private void beside() {
        due.about("16 beside");
        LookAsideCache x = fresh();
        x.go(1, 0);
        load(x, 0, 1);
        x.cold(0, 1);
        load(x, 0, 1);
        x.tick(1);
        x.write(0, 1, 11);
        x.get(1, 1);
        int[] parts = {0, 6, 1, 3, 7, 3};
        for (int what = 0; what < 6; what++) {
            due.is("part " + what, x.beside(0, 1, what), parts[what]);
            due.is("none " + what, x.beside(0, 2, what), NOT);
        }
        x.tick(2);
        due.is("hold-off is gone", x.beside(0, 1, 5), NOT);
        x.tick(3);
        due.is("old copy is gone", x.beside(0, 1, 1), NOT);
        due.is("lease stays", x.beside(0, 1, 4), 7);
        due.is("no what", x.beside(0, 1, 6), BAD);
        due.is("no what", x.beside(0, 1, -1), BAD);
        due.is("no key", x.beside(0, -1, 0), BAD);
        due.is("no group", x.beside(6, 1, 0), BAD);
    }

    private void client() {
        due.about("17 client");
        LookAsideCache x = fresh();
        x.write(5, 3, 33);
        for (int what = 1; what < 7; what++) {
            due.is("no hand " + what, x.client(5, what), NOT);
        }
        x.get(5, 3);
        due.is("key", x.client(5, 1), 3);
        due.is("token", x.client(5, 2), 1);
        due.is("looked", x.client(5, 3), 0);
        for (int what = 4; what < 7; what++) {
            due.is("not looked " + what, x.client(5, what), NOT);
        }
        x.look(5);
        int[] parts = {5, 3, 1, 1, 33, 1, 0};
        for (int what = 0; what < 7; what++) {
            due.is("part " + what, x.client(5, what), parts[what]);
        }
        due.is("no what", x.client(5, 7), BAD);
        due.is("no what", x.client(0, -1), BAD);
        for (int c : NO_CLIENT) {
            due.is("no client", x.client(c, 0), BAD);
        }
    }

    private void store() {
        due.about("18 store");
        LookAsideCache x = fresh();
        x.write(2, 1, 11);
        x.write(0, 1, 12);
        x.apply(1);
        due.is("home", x.store(0, 1, 0), 12);
        due.is("home", x.store(0, 1, 1), 2);
        due.is("home has no marker", x.store(0, 1, 2), NOT);
        due.is("region 1", x.store(1, 1, 0), 11);
        due.is("region 1", x.store(1, 1, 1), 1);
        due.is("its marker went", x.store(1, 1, 2), NOT);
        due.is("region 2", x.store(2, 1, 0), 0);
        due.is("region 2", x.store(2, 1, 1), 0);
        x.write(4, 2, 7);
        due.is("marker", x.store(2, 2, 2), 3);
        for (int r : NO_REGION) {
            due.is("no region", x.store(r, 1, 0), BAD);
        }
        for (int k : NO_KEY) {
            due.is("no key", x.store(0, k, 0), BAD);
        }
        due.is("no what", x.store(0, 0, 3), BAD);
        due.is("no what", x.store(0, 0, -1), BAD);
    }

    private void region() {
        due.about("19 region");
        LookAsideCache x = fresh();
        x.write(0, 1, 1);
        x.write(0, 1, 2);
        x.apply(2);
        x.get(4, 1);
        x.look(4);
        x.look(4);
        due.is("place", x.region(2, 0), 1);
        due.is("behind", x.region(2, 1), 1);
        due.is("loads", x.region(2, 2), 2);
        due.is("home's place", x.region(0, 0), 0);
        due.is("home's behind", x.region(0, 1), 2);
        due.is("home's loads", x.region(0, 2), 0);
        for (int r : NO_REGION) {
            due.is("no region", x.region(r, 0), BAD);
        }
        due.is("no what", x.region(0, 3), BAD);
        due.is("no what", x.region(0, -1), BAD);
    }

    private void within() {
        due.about("20 within");
        LookAsideCache x = fresh();
        x.write(0, 1, 11);
        x.write(3, 2, 21);
        x.write(5, 1, 12);
        int[] values = {0, 11, 11, 12};
        int[] versions = {0, 1, 1, 3};
        for (int n = 0; n <= 3; n++) {
            due.is("value " + n, x.within(1, n, 0), values[n]);
            due.is("version " + n, x.within(1, n, 1), versions[n]);
        }
        due.is("no n", x.within(1, 4, 0), BAD);
        due.is("no n", x.within(1, -1, 0), BAD);
        due.is("no what", x.within(1, 0, 2), BAD);
        due.is("no what", x.within(1, 0, -1), BAD);
        for (int k : NO_KEY) {
            due.is("no key", x.within(k, 0, 0), BAD);
        }
    }

    private void least() {
        due.about("21 least");
        LookAsideCache x = fresh();
        due.is("none", x.least(0, 0), NOT);
        x.write(0, 7, 1);
        x.write(0, 5, 1);
        x.write(0, 3, 1);
        load(x, 0, 5);
        x.tick(1);
        load(x, 0, 7);
        load(x, 0, 3);
        x.get(0, 3);
        x.tick(1);
        x.get(0, 5);
        x.get(0, 5);
        due.is("used, of like ones the least key", x.least(0, 0), 3);
        due.is("hits", x.least(0, 1), 7);
        due.is("born", x.least(0, 2), 5);
        due.is("version", x.least(0, 3), 7);
        due.is("no policy", x.least(0, 4), BAD);
        due.is("no policy", x.least(1, -1), BAD);
        for (int g : NO_CLIENT) {
            due.is("no group", x.least(g, 0), BAD);
        }
    }

    private void outdated() {
        due.about("22 outdated");
        LookAsideCache x = fresh();
        x.set(6, 0);
        for (int k = 0; k < 3; k++) {
            x.go(k, 1);
            x.get(k, k + 7);
            x.look(k);
            x.write(5, k + 7, 5);
        }
        x.apply(0);
        x.apply(0);
        x.fill(0);
        x.fill(1);
        x.fill(2);
        due.is("those that are applied at home", x.outdated(1), 1 << 7 | 1 << 8);
        x.apply(1);
        due.is("another group", x.outdated(2), 0);
        x.tick(50);
        due.is("gone", x.outdated(1), 0);
        for (int g : NO_CLIENT) {
            due.is("no group", x.outdated(g), BAD);
        }
    }

    private void lag() {
        due.about("23 lag");
        LookAsideCache x = fresh();
        load(x, 0, 1);
        due.is("none newer", x.lag(0, 1), 0);
        x.write(5, 1, 1);
        x.write(5, 2, 1);
        x.write(5, 1, 1);
        due.is("two", x.lag(0, 1), 2);
        load(x, 1, 1);
        due.is("as new", x.lag(1, 1), 0);
        due.is("no entry", x.lag(0, 2), NOT);
        for (int g : NO_CLIENT) {
            due.is("no group", x.lag(g, 0), BAD);
        }
        for (int k : NO_KEY) {
            due.is("no key", x.lag(0, k), BAD);
        }
    }

    private void own() {
        due.about("24 own");
        LookAsideCache x = fresh();
        due.is("no entry", x.own(0, 1), NOT);
        load(x, 0, 1);
        due.is("no write of it", x.own(0, 1), 1);
        x.write(1, 1, 5);
        due.is("another's write", x.own(0, 1), 1);
        x.go(1, 0);
        due.is("its own", x.own(1, 1), 0);
        x.go(0, 3);
        x.write(0, 2, 6);
        x.go(0, 0);
        due.is("of another key", x.own(0, 1), 1);
        x.apply(0);
        load(x, 0, 1);
        due.is("as new", x.own(1, 1), 1);
        for (int c : NO_CLIENT) {
            due.is("no client", x.own(c, 0), BAD);
        }
        for (int k : NO_KEY) {
            due.is("no key", x.own(0, k), BAD);
        }
    }

    private void dues() {
        due.about("25 due");
        LookAsideCache x = fresh();
        due.is("none", x.due(0, 0), NOT);
        x.set(1, 6);
        x.set(2, 6);
        x.set(4, 6);
        x.cold(5, 1);
        x.write(5, 0, 1);
        load(x, 3, 9);
        load(x, 1, 9);
        load(x, 1, 8);
        x.write(1, 8, 1);
        x.get(0, 0);
        x.set(3, 1);
        x.get(5, 7);
        int[] ends = {1, 6, 6, 6, 6, 6};
        int[] kinds = {2, 0, 0, 1, 2, 3};
        int[] where = {507, 109, 309, 108, 0, 500};
        for (int k = 0; k < 6; k++) {
            due.is("end " + k, x.due(k, 0), ends[k]);
            due.is("kind " + k, x.due(k, 1), kinds[k]);
            due.is("where " + k, x.due(k, 2), where[k]);
        }
        due.is("not as many", x.due(6, 0), NOT);
        due.is("not as many", x.due(Integer.MAX_VALUE, 2), NOT);
        due.is("no k", x.due(-1, 0), BAD);
        due.is("no what", x.due(0, 3), BAD);
        due.is("no what", x.due(9, -1), BAD);
    }

    private void hottest() {
        due.about("26 hottest");
        LookAsideCache x = fresh();
        for (int k = 0; k < 10; k++) {
            due.is("like ones", x.hottest(k), k);
        }
        load(x, 0, 7);
        load(x, 1, 3);
        x.get(0, 7);
        x.get(0, 7);
        x.get(1, 3);
        x.tick(50);
        load(x, 1, 9);
        x.get(1, 9);
        int[] keys = {7, 3, 9, 0, 1, 2, 4, 5, 6, 8};
        for (int k = 0; k < 10; k++) {
            due.is("by hits ever " + k, x.hottest(k), keys[k]);
        }
        due.is("no k", x.hottest(10), BAD);
        due.is("no k", x.hottest(-1), BAD);
    }

    private void led() {
        due.about("27 led");
        LookAsideCache x = fresh();
        x.go(1, 0);
        x.set(0, 1);
        x.get(0, 1);
        x.get(0, 1);
        x.get(1, 1);
        x.look(0);
        x.fill(0);
        x.get(1, 1);
        x.get(1, 1);
        x.get(1, 1);
        x.write(1, 1, 5);
        x.get(0, 1);
        x.get(1, 1);
        x.get(1, 1);
        x.look(0);
        x.write(1, 1, 6);
        x.fill(0);
        load(x, 1, 1);
        load(x, 1, 2);
        x.go(2, 1);
        x.cold(1, 1);
        x.get(2, 2);
        x.look(2);
        x.look(2);
        x.get(2, 3);
        x.write(2, 3, 3);
        int[] led = {3, 6, 1, 2, 3, 1, 2, 1, 1, 2};
        for (int what = 0; what < 10; what++) {
            due.is("led " + what, x.led(what), led[what]);
        }
        due.is("no what", x.led(10), BAD);
        due.is("no what", x.led(-1), BAD);
    }

    private void storm() {
        due.about("28 storm");
        LookAsideCache x = fresh();
        for (int c = 1; c < 6; c++) {
            x.go(c, 0);
        }
        due.is("rounds", x.storm(63, 1, 0, 0), 2);
        due.is("one load", x.storm(63, 1, 0, 1), 1);
        due.is("all have it", x.storm(63, 1, 0, 2), 6);
        due.is("one fill", x.storm(63, 1, 0, 3), 1);
        x.set(6, 0);
        due.is("without leases: rounds", x.storm(63, 1, 0, 0), 1);
        due.is("without leases: loads", x.storm(63, 1, 0, 1), 6);
        due.is("without leases: fills", x.storm(63, 1, 0, 3), 6);
        x.set(6, 1);
        due.is("in thought", x.count(1) + x.count(4) + x.led(1) + x.region(0, 2), 0);
        load(x, 0, 1);
        due.is("hits", x.storm(5, 1, 0, 1), 0);
        due.is("hits", x.storm(5, 1, 0, 0), 1);
        x.write(0, 1, 5);
        due.is("old ones taken: rounds", x.storm(63, 1, 1, 0), 1);
        due.is("old ones not taken: rounds", x.storm(63, 1, 0, 0), 2);
        x.go(5, 1);
        due.is("one lease a group", x.storm(63, 1, 0, 3), 2);
    }

    private void stormEdges() {
        due.about("28 storm, edges");
        LookAsideCache x = fresh();
        x.go(1, 0);
        x.go(2, 0);
        x.get(2, 1);
        due.is("the lease of one not told of", x.storm(3, 1, 0, 0), 6);
        due.is("none has it", x.storm(3, 1, 1, 2), 0);
        due.is("its own lease, with the hand", x.storm(7, 1, 0, 0), 2);
        x.get(2, 2);
        due.is("its own lease, the hand for another key", x.storm(7, 1, 0, 2), 0);
        due.is("loads", x.storm(7, 1, 0, 1), 0);

        x = fresh();
        x.go(1, 0);
        x.get(0, 1);
        x.write(0, 1, 5);
        x.get(1, 1);
        due.is("a hand whose lease ended looks, too", x.storm(1, 1, 0, 2), 1);
        due.is("its fill is refused", x.storm(1, 1, 0, 3), 0);
        due.is("load", x.storm(1, 1, 0, 1), 1);
        for (int bits : new int[] {0, 64, -1, Integer.MIN_VALUE, Integer.MAX_VALUE}) {
            due.is("no clients", x.storm(bits, 1, 0, 0), BAD);
        }
        for (int k : NO_KEY) {
            due.is("no key", x.storm(1, k, 0, 0), BAD);
        }
        due.is("no takes", x.storm(1, 1, 2, 0), BAD);
        due.is("no takes", x.storm(1, 1, -1, 0), BAD);
        due.is("no what", x.storm(1, 1, 0, 4), BAD);
        due.is("no what", x.storm(1, 1, 0, -1), BAD);
    }

    private void settled() {
        due.about("29 settled");
        LookAsideCache x = fresh();
        load(x, 0, 1);
        load(x, 4, 1);
        load(x, 4, 2);
        x.set(6, 0);
        x.get(3, 5);
        x.look(3);
        x.write(5, 5, 1);
        x.apply(1);
        x.fill(3);
        x.write(5, 1, 1);
        due.is("applied", x.settled(0), 2 + 1 + 2);
        due.is("entries left", x.settled(1), 2);
        due.is("old copies", x.settled(2), 2);
        due.is("groups with an outdated one", x.settled(3), 1);
        due.is("in thought", x.region(0, 0), 0);
        due.is("in thought", x.count(1), 4);
        due.is("no what", x.settled(4), BAD);
        due.is("no what", x.settled(-1), BAD);
    }

    private void tried() {
        due.about("30 tried");
        LookAsideCache x = fresh();
        due.is("nothing there", x.tried(0, 0, 0), -11);
        row(x, 0, 0, 0, 1, 0, 10, 0);
        due.is("till one that is no key", x.tried(0, 0, 0), 2);
        row(x, 1, -1, 0, 0);
        due.is("at once", x.tried(1, 0, 0), 0);
        x.row(2, 0);
        due.is("an empty row", x.tried(2, 0, 0), 0);
        x.set(1, 1);
        due.is("all run out by a tick", x.tried(0, 0, 0), 0);
        x.set(1, 2);
        due.is("one stays", x.tried(0, 0, 0), 1);
        x.set(1, 50);
        load(x, 0, 1);
        due.is("from what is there", x.tried(0, 0, 0), 3);
        due.is("another group", x.tried(0, 5, 0), 2);
        x.set(0, 1);
        row(x, 3, 1, 2, 2, 1);
        due.is("room 1", x.tried(3, 0, 0), 2);
        due.is("in thought", x.entry(0, 1, 4) + x.count(7), 0);
        due.is("led stays", x.led(7) + x.led(4), 1);
        x.set(0, 2);
        row(x, 3, 5, 5, 6, 6, 6, 7, 5, 6);
        due.is("by used", x.tried(3, 1, 0), 3);
        due.is("by hits", x.tried(3, 1, 1), 4);
        for (int s : NO_SHELF) {
            due.is("no shelf", x.tried(s, 0, 0), BAD);
        }
        for (int g : NO_CLIENT) {
            due.is("no group", x.tried(0, g, 0), BAD);
        }
        due.is("no policy", x.tried(0, 0, 4), BAD);
        due.is("no policy", x.tried(0, 0, -1), BAD);

        x = fresh();
        x.set(0, 2);
        x.write(4, 0, 9);
        row(x, 0, 0, 1, 2, 0);
        due.is("versions of the region's store, not of the marker's", x.tried(0, 4, 3), 0);
        x.apply(2);
        due.is("versions of the region's store", x.tried(0, 4, 3), 1);
    }

    private void best() {
        due.about("31 best");
        LookAsideCache x = fresh();
        due.is("nothing there", x.best(0, 0), -11);
        row(x, 0, 1, 2, 3);
        due.is("of like ones the least", x.best(0, 0), 0);
        x.set(0, 2);
        row(x, 0, 5, 5, 6, 6, 6, 7, 5, 6);
        due.is("hits", x.best(0, 0), 1);
        x.write(0, 0, 9);
        row(x, 0, 0, 1, 2, 0);
        due.is("versions", x.best(0, 0), 3);
        for (int s : NO_SHELF) {
            due.is("no shelf", x.best(s, 0), BAD);
        }
        for (int g : NO_CLIENT) {
            due.is("no group", x.best(1, g), BAD);
        }
    }

    private void foreseen() {
        due.about("32 foreseen");
        LookAsideCache x = fresh();
        due.is("nothing there", x.foreseen(0, 0), -11);
        x.row(0, 0);
        due.is("an empty row", x.foreseen(0, 0), 0);
        x.set(0, 2);
        row(x, 0, 0, 1, 2, 0, 1, 2, 0, 1, 2, 99, 0);
        due.is("the best there is", x.foreseen(0, 0), 3);
        x.set(0, 1);
        due.is("room 1", x.foreseen(0, 0), 0);
        x.set(0, 4);
        for (int k = 0; k < 4; k++) {
            load(x, 1, k);
        }
        x.set(0, 2);
        row(x, 1, 0, 1, 2, 3, 9, 2, 3, 9);
        due.is("more than the room till one comes", x.foreseen(1, 1), 6);
        row(x, 2, 9, 0, 1, 2, 3);
        due.is("but one is left then", x.foreseen(2, 1), 1);
        x.tick(50);
        due.is("those that are there now", x.foreseen(1, 1), 2);
        for (int s : NO_SHELF) {
            due.is("no shelf", x.foreseen(s, 0), BAD);
        }
        for (int g : NO_CLIENT) {
            due.is("no group", x.foreseen(0, g), BAD);
            due.is("BAD goes ahead", x.foreseen(3, g), BAD);
        }
    }

    // ---- plans

    private void feed() {
        due.about("33 feed");
        LookAsideCache x = fresh();
        due.is("no byte", x.feed(-1), BAD);
        due.is("no byte", x.feed(256), BAD);
        for (int n = 1; n <= 160; n++) {
            due.is("byte " + n, x.feed(n % 2 == 0 ? 0 : 255), n);
        }
        due.is("full", x.feed(1), FULL);
        due.is("BAD goes ahead", x.feed(256), BAD);
        due.is("160", x.count(5), 160);
        due.is("no act", x.count(8), 0);
    }

    private void plan() {
        due.about("34 plan");
        LookAsideCache x = fresh();
        x.feed('l');
        for (int c : NO_CLIENT) {
            due.is("no client", x.plan(c), BAD);
        }
        due.is("the tape stays", x.count(5), 1);
        due.is("the rest of it", plan(x, 0, "ook"), 1);
        due.is("the tape is empty", x.count(5), 0);
        due.is("a plan", x.count(6), 1);
        due.is("all words", plan(x, 1, "get 9;look;fill;write 0 999;apply 2"), 5);
        due.is("all words", plan(x, 2, "tick 50;cold 5;warm 0;tick 1"), 4);
        due.is("noughts ahead", plan(x, 3, "get 009;tick 01;write 000 000"), 3);
        due.is("plans", x.count(6), 4);
        due.is("a fault", plan(x, 1, "look;"), -105);
        due.is("the plan stays", x.orders(2, 0, 0), 1);
        due.is("anew", plan(x, 1, "look"), 1);
        due.is("plans", x.count(6), 4);
        due.is("no act", x.count(8), 0);
    }

    private void planFaults() {
        due.about("34 plan, faults");
        LookAsideCache x = fresh();
        String[] texts = {"", " get 1", "ge", "gett 1", "get", "get;", "get 1 ", "get  1", "get 1;", "get 1;;", "get x",
            "get 10", "get 100", "get 1000", "get 0001", "write 1", "write 1 ", "write 1 1000", "write 10 1", "write 1;",
            "write 1 2 3", "apply 3", "tick 0", "tick 51", "cold 6", "warm 6", "look 1", "fill;Look", "look;look;looks",
            "look;look;look;look;look;", "look;look;look;look;look;look", "look;look;look;look;look;?",
            "look;look;look;look;look?", "look\0", "get\t1", "get -1", "get 1\u00ff", "{", "`", "book", "lookz", "lo", "kool",
            "look{", "look`", "write 1 2x", "get /", "get :", "get 12x", "tick 50;tick 500"};
        int[] faults = {0, 0, 0, 0, 3, 3, 5, 4, 6, 6, 4,
            4, 4, 4, 7, 7, 8, 11, 6, 7,
            9, 6, 5, 5, 5, 5, 4, 5, 10,
            25, 25, 25, 24, 4, 3, 4, 5, 0, 0, 0, 0, 0, 0,
            4, 4, 9, 4, 4, 4, 13};
        for (int i = 0; i < texts.length; i++) {
            due.is("'" + texts[i] + "'", plan(x, 0, texts[i]), -100 - faults[i]);
            due.is("the tape is empty", x.count(5), 0);
        }
        due.is("no plan", x.count(6), 0);
    }

    private void orders() {
        due.about("35 orders");
        LookAsideCache x = fresh();
        plan(x, 0, "get 4;look;fill");
        plan(x, 3, "write 4 17;apply 0");
        due.is("one alone", x.orders(1, 4, 0), 1);
        due.is("its loads", x.orders(1, 4, 2), 1);
        due.is("its value", x.orders(1, 4, 4), 1);
        due.is("another key", x.orders(1, 5, 4), 0);
        due.is("how many", x.orders(9, 4, 0), 10);
        due.is("stale ones with leases", x.orders(9, 4, 1), 0);
        x.set(6, 0);
        due.is("stale ones without", x.orders(9, 4, 1), 1);
        due.is("values", x.orders(9, 4, 4), 2);
        plan(x, 1, "get 4;look;look");
        due.is("least loads", x.orders(3, 4, 2), 3);
        x.go(1, 0);
        due.is("least loads at one group", x.orders(3, 4, 2), 1);
        due.is("most loads at one group", x.orders(3, 4, 3), 3);
        due.is("how many", x.orders(11, 4, 0), 560);
        due.is("in thought", x.count(0) + x.count(1) + x.count(4) + x.region(0, 2), 0);
        load(x, 0, 4);
        x.tick(1);
        due.is("from now on: no load", x.orders(1, 4, 3), 0);
        due.is("earlier loads don't count", x.orders(2, 0, 3), 0);
        plan(x, 5, "tick 49");
        due.is("a value that ran out", x.orders(32, 4, 4), 0);
        plan(x, 5, "tick 48;look;fill;apply 2");
        due.is("refused acts do nothing", x.orders(32, 4, 4), 1);
        plan(x, 5, "cold 0;warm 0");
        due.is("cold ends it", x.orders(32, 4, 4), 0);
        x.cold(1, 1);
        x.go(5, 1);
        plan(x, 5, "get 4;look;fill");
        due.is("a cold group looks at its neighbour", x.orders(32, 4, 3), 0);
        plan(x, 5, "warm 1;get 4;look;fill");
        due.is("a warm one at the store", x.orders(32, 4, 2), 1);
    }

    private void ordersRefused() {
        due.about("35 orders, refused");
        LookAsideCache x = fresh();
        plan(x, 0, "look;look;look");
        plan(x, 1, "look;look;look");
        plan(x, 2, "look;look;look");
        plan(x, 3, "look");
        for (int bits : new int[] {0, 64, -1, 65, 15, Integer.MIN_VALUE, 16, 17}) {
            due.is("no such clients", x.orders(bits, 0, 0), BAD);
        }
        for (int k : NO_KEY) {
            due.is("no key", x.orders(1, k, 0), BAD);
        }
        due.is("no what", x.orders(1, 0, 5), BAD);
        due.is("no what", x.orders(1, 0, -1), BAD);
        due.is("nine acts", x.orders(7, 0, 0), STATE);
        due.is("BAD goes ahead", x.orders(7, 10, 0), BAD);
        due.is("seven acts", x.orders(11, 0, 0), 140);
    }

    private void witness() {
        due.about("36 witness");
        LookAsideCache x = fresh();
        plan(x, 1, "get 4;look;fill");
        plan(x, 2, "write 4 17;apply 0");
        due.is("none with leases", x.witness(6, 0), NOT);
        x.set(6, 0);
        int[] first = {1, 1, 2, 2, 1};
        for (int k = 0; k < 5; k++) {
            due.is("client " + k, x.witness(6, k), first[k]);
        }
        due.is("it has fewer", x.witness(6, 5), NOT);
        due.is("it has fewer", x.witness(6, Integer.MAX_VALUE), NOT);
        due.is("no k", x.witness(6, -1), BAD);
        due.is("no clients", x.witness(0, 0), BAD);
        due.is("no plan", x.witness(1, 0), BAD);
        plan(x, 1, "get 4;look;fill;get 3;look");
        plan(x, 2, "write 4 17;apply 0;look;look");
        due.is("nine acts", x.witness(6, 0), STATE);
        plan(x, 2, "write 4 17;apply 0;look");
        due.is("eight acts", x.witness(6, 7), 2);
        x.get(1, 4);
        x.look(1);
        x.write(0, 4, 3);
        x.apply(0);
        x.fill(1);
        plan(x, 2, "look");
        plan(x, 1, "look;look");
        due.is("outdated already: the least order", x.witness(6, 0) * 100 + x.witness(6, 1) * 10 + x.witness(6, 2), 112);
    }

    // ---- shelves, the image

    private void row() {
        due.about("37 row");
        LookAsideCache x = fresh();
        for (int s : NO_SHELF) {
            due.is("no shelf", x.row(s, 1), BAD);
            due.is("BAD goes ahead", x.row(s, -1), BAD);
        }
        due.is("too long", x.row(0, 41), BAD);
        due.is("too long", x.row(0, Integer.MAX_VALUE), BAD);
        due.is("below 0", x.row(0, -1), -14);
        due.is("below 0", x.row(0, Integer.MIN_VALUE), -14);
        due.is("still nothing", x.put(0, 0, 1), -11);
        due.is("40", x.row(0, 40), 1);
        due.is("last", x.put(0, 39, 5), 1);
        due.is("refused: the row stays", x.row(0, -1), -14);
        due.is("last", x.element(0, 39), 5);
        due.is("anew", x.row(0, 40), 1);
        due.is("0 at first", x.element(0, 39), 0);
        due.is("0 longs", x.row(3, 0), 1);
        due.is("no places", x.put(3, 0, 1), -13);
    }

    private void put() {
        due.about("38 put");
        LookAsideCache x = fresh();
        for (int s : NO_SHELF) {
            due.is("no shelf", x.put(s, 0, 1), BAD);
        }
        due.is("nothing there", x.put(1, -5, 1), -11);
        x.row(1, 2);
        due.is("first", x.put(1, 0, Long.MAX_VALUE), 1);
        due.is("last", x.put(1, 1, -7), 1);
        due.is("no place", x.put(1, 2, 1), -13);
        due.is("no place", x.put(1, -1, 1), -13);
        due.is("no place", x.put(1, Integer.MAX_VALUE, 1), -13);
        due.is("first", x.element(1, 0), Long.MAX_VALUE);
        due.is("last", x.element(1, 1), -7);
        due.is("no act", x.count(8), 0);
    }

    private void element() {
        due.about("39 element");
        LookAsideCache x = fresh();
        for (int s : NO_SHELF) {
            due.is("no shelf", x.element(s, 0), NO_ELEMENT);
        }
        due.is("nothing there", x.element(2, 0), NO_ELEMENT);
        x.row(2, 1);
        x.put(2, 0, 12);
        due.is("there", x.element(2, 0), 12);
        due.is("no place", x.element(2, 1), NO_ELEMENT);
        due.is("no place", x.element(2, -1), NO_ELEMENT);
        due.is("no place", x.element(2, Integer.MIN_VALUE), NO_ELEMENT);
    }

    private void save() {
        due.about("40 save");
        LookAsideCache x = fresh();
        x.write(0, 9, 999);
        x.write(0, 2, 22);
        load(x, 0, 9);
        load(x, 0, 2);
        load(x, 0, 5);
        due.is("nothing there", x.save(0, 0, 0), -11);
        x.row(0, 4);
        due.is("no room from there", x.save(0, 2, 0), -13);
        due.is("none is written then", x.element(0, 2) + x.element(0, 3), 0);
        due.is("no place", x.save(0, -1, 0), -13);
        due.is("no place", x.save(0, Integer.MAX_VALUE, 0), -13);
        due.is("from 0 on", x.save(0, 0, 0), 3);
        x.row(0, 4);
        due.is("three", x.save(0, 1, 0), 3);
        due.is("ahead", x.element(0, 0), 0);
        due.is("by keys", x.element(0, 1), 2002022);
        due.is("by keys", x.element(0, 2), 5000);
        due.is("by keys", x.element(0, 3), 1009999);
        due.is("none, at the end", x.save(0, 4, 1), 0);
        due.is("none, behind it", x.save(0, 5, 1), -13);
        due.is("none, ahead", x.save(0, -1, 1), -13);
        for (int s : NO_SHELF) {
            due.is("no shelf", x.save(s, 0, 0), BAD);
        }
        for (int g : NO_CLIENT) {
            due.is("no group", x.save(0, 0, g), BAD);
            due.is("BAD goes ahead", x.save(3, 0, g), BAD);
        }
    }

    private void restore() {
        due.about("41 restore");
        LookAsideCache x = fresh();
        x.write(0, 1, 11);
        x.write(0, 2, 0);
        for (int s : NO_SHELF) {
            due.is("no shelf", x.restore(s, 0, 1, 0), BAD);
        }
        for (int g : NO_CLIENT) {
            due.is("no group", x.restore(0, 0, 1, g), BAD);
        }
        due.is("no n", x.restore(0, 0, 11, 0), BAD);
        due.is("no n", x.restore(0, 0, -1, 0), BAD);
        due.is("nothing there", x.restore(0, 0, 1, 0), -11);
        row(x, 0, 1001011, 2002000, 3000, 1001012, 9000);
        due.is("no places", x.restore(0, 3, 3, 0), -13);
        due.is("no places", x.restore(0, -1, 0, 0), -13);
        due.is("no places", x.restore(0, 6, 0, 0), -13);
        due.is("no places", x.restore(0, Integer.MAX_VALUE, 10, 0), -13);
        due.is("nothing noted", x.count(8), 2);
        due.is("none of none", x.restore(0, 5, 0, 0), 0);
        due.is("noted", x.count(8), 3);
        x.tick(2);
        x.get(0, 1);
        due.is("ends ahead of one that is none", x.restore(0, 0, 5, 0), 3);
        due.is("value", x.entry(0, 1, 0), 11);
        due.is("version", x.entry(0, 1, 1), 1);
        due.is("born", x.entry(0, 1, 2), 2);
        due.is("end", x.entry(0, 1, 5), 52);
        due.is("lease ends", x.beside(0, 1, 2), NOT);
        due.is("0 with value 0", x.entry(0, 3, 1), 0);
        due.is("none behind", x.entry(0, 9, 0), NOT);
        due.is("fills", x.led(4), 3);
        x.set(0, 1);
        due.is("what gave way", x.restore(0, 0, 2, 0), 2);
        due.is("what gave way", x.led(7), 3);
        long[] none = {-1, Long.MIN_VALUE, Long.MAX_VALUE, 1, 10000, 3001011, 1002011, 1001010, 11, 1011011,
            (1L << 32) * 1000000 + 1001011, 1000000, 999999};
        for (long bad : none) {
            row(x, 1, bad);
            due.is("none such: " + bad, x.restore(1, 0, 1, 5), 0);
        }
        due.is("no entry of them", x.count(1), 1);
    }

    private void imageAndBack() {
        due.about("42, 43 image, back");
        LookAsideCache x = fresh();
        due.is("none", x.back(), STATE);
        x.write(2, 1, 11);
        load(x, 2, 1);
        x.get(2, 1);
        x.get(2, 4);
        x.tick(3);
        x.cold(5, 1);
        x.set(0, 7);
        x.go(0, 1);
        due.is("image", x.image(), 3);
        due.is("no act", x.count(8), 10);
        plan(x, 0, "look");
        x.feed('x');
        row(x, 0, 5);
        x.undo();
        x.undo();
        x.write(2, 1, 12);
        x.apply(1);
        x.get(2, 1);
        x.tick(9);
        x.cold(5, 0);
        due.is("back", x.back(), 3);
        due.is("writes", x.count(0), 1);
        due.is("entry", x.entry(2, 1, 0), 11);
        due.is("hits ever", x.hottest(0), 1);
        due.is("led", x.led(0), 1);
        due.is("hand", x.client(2, 1), 4);
        due.is("lease", x.beside(2, 4, 4), 6);
        due.is("marker", x.store(1, 1, 2), 1);
        due.is("place", x.region(1, 0), 0);
        due.is("loads", x.region(0, 2), 1);
        due.is("setting", x.setting(0), 7);
        due.is("group", x.client(0, 0), 1);
        due.is("history", x.count(8), 0);
        due.is("no undo", x.undo(), STATE);
        due.is("no redo", x.redo(), STATE);
        due.is("cold", x.cold(5, 1), 1);
        due.is("plans stay", x.count(6), 1);
        due.is("the tape stays", x.count(5), 1);
        due.is("shelves stay", x.element(0, 0), 5);
        x.tick(1);
        due.is("undo till then", x.undo(), 1);
        due.is("back again", x.back(), 3);
        x.get(3, 9);
        due.is("tokens, too", x.client(3, 2), 3);
        x.tick(5);
        due.is("a later image", x.image(), 8);
        x.tick(5);
        due.is("the later one", x.back(), 8);
    }

    private void count() {
        due.about("44 count");
        LookAsideCache x = fresh();
        x.write(2, 1, 11);
        x.write(4, 1, 11);
        x.write(4, 2, 11);
        load(x, 0, 1);
        load(x, 5, 1);
        x.get(0, 7);
        x.get(1, 7);
        x.get(1, 8);
        x.go(3, 3);
        x.tick(4);
        plan(x, 4, "look");
        x.feed(1);
        x.feed(1);
        int[] counts = {3, 2, 3, 3, 2, 2, 1, 4, 14};
        for (int what = 0; what <= 8; what++) {
            due.is("count " + what, x.count(what), counts[what]);
        }
        x.tick(2);
        due.is("leases are gone", x.count(2), 0);
        due.is("hands stay", x.count(4), 2);
        due.is("no what", x.count(9), BAD);
        due.is("no what", x.count(-1), BAD);
    }
}
