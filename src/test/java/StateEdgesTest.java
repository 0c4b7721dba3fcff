/** The edges that part 1 of the document's terms names: what there is, where, how many, till when. */
public final class StateEdgesTest extends Steps {
    private final Due due = new Due();

    public static void main(String[] args) {
        StateEdgesTest t = new StateEdgesTest();
        t.constants();
        t.calls512();
        t.regionsOfGroups();
        t.neighbours();
        t.clientsAtFirst();
        t.leastAndMostNumbers();
        t.sixtyWrites();
        t.noWriteYet();
        t.storeOfHome();
        t.storesAbroad();
        t.endsAreToldWhenTheyCome();
        t.goneAtTheEnd();
        t.endsTogether();
        t.atMostOneEntry();
        t.atMostOneOldCopy();
        t.atMostOneLease();
        t.atMostOneHoldOff();
        t.atMostOneMarker();
        t.homeHasNoMarker();
        t.atMostOneHand();
        t.warmAtFirst();
        t.leastOfLikeOnes();
        t.leastByEach();
        t.leastOfThisGroupAlone();
        t.leastOfThoseThere();
        t.due.end();
    }

    private void constants() {
        due.about("the constants");
        due.is("BAD", LookAsideCache.BAD, BAD);
        due.is("NOT", LookAsideCache.NOT, NOT);
        due.is("FULL", LookAsideCache.FULL, FULL);
        due.is("WAITS", LookAsideCache.WAITS, WAITS);
        due.is("STATE", LookAsideCache.STATE, STATE);
        due.is("LEASED", LookAsideCache.LEASED, LEASED);
    }

    private void calls512() {
        due.about("512 calls");
        LookAsideCache x = fresh();
        for (int n = 1; n <= 508; n++) {
            due.is("tick", x.tick(50), 50 * n);
        }
        due.is("the 509th", x.get(5, 9), LEASED);
        due.is("the 510th", x.beside(5, 9, 4), 25406);
        due.is("the 511th", x.next(), 25406);
        due.is("the 512th", x.count(8), 30);

        x = fresh();
        x.set(3, 1);
        for (int n = 1; n <= 255; n++) {
            x.get(0, n % 10);
            x.tick(1);
        }
        due.is("tokens", x.client(0, 2), 255);
    }

    private void regionsOfGroups() {
        due.about("GROUP g is of REGION g / 2");
        for (int g = 0; g < 6; g++) {
            LookAsideCache x = fresh();
            x.go(3, g);
            x.get(3, 2);
            x.look(3);
            x.write(3, 1, 5);
            for (int r = 0; r < 3; r++) {
                due.is("loads of " + r + " by " + g, x.region(r, 2), r == g / 2 ? 1 : 0);
                due.is("marker of " + r + " by " + g, x.store(r, 1, 2), r == g / 2 && r > 0 ? 1 : NOT);
            }
            for (int r = 0; r < 3; r++) {
                x.go(3, g);
                load(x, 3, 1);
                x.apply(r);
                due.is("apply of " + r + " at " + g, x.entry(g, 1, 0), r == g / 2 ? NOT : 5);
            }
        }
    }

    private void neighbours() {
        due.about("2 r and 2 r + 1 are NEIGHBOURS");
        int[] neighbour = {1, 0, 3, 2, 5, 4};
        for (int g = 0; g < 6; g++) {
            for (int other = 0; other < 6; other++) {
                LookAsideCache x = fresh();
                x.go(0, other);
                load(x, 0, 1);
                x.cold(g, 1);
                x.go(1, g);
                x.get(1, 1);
                x.look(1);
                due.is(other + " beside " + g, x.client(1, 6), other == neighbour[g] ? 1 : 0);
            }
            LookAsideCache x = fresh();
            x.go(0, neighbour[g]);
            load(x, 0, 1);
            for (int cold = 0; cold < 6; cold++) {
                x.cold(cold, cold == neighbour[g] ? 0 : 1);
            }
            x.go(1, g);
            x.get(1, 1);
            x.look(1);
            due.is("all others are cold", x.client(1, 6), 1);
        }
    }

    private void clientsAtFirst() {
        due.about("at first CLIENT c at GROUP c");
        for (int c = 0; c < 6; c++) {
            LookAsideCache x = fresh();
            load(x, c, 3);
            due.is("loads at " + c, x.entry(c, 3, 0), 0);
            due.is("one entry", x.count(1), 1);
        }
    }

    private void leastAndMostNumbers() {
        due.about("KEYS 0 .. 9; VALUES 0 .. 999");
        for (int key : new int[] {0, 9}) {
            for (int value : new int[] {0, 999}) {
                LookAsideCache x = fresh();
                due.is("write", x.write(5, key, value), 1);
                x.go(4, 5);
                load(x, 5, key);
                due.is("hit", x.get(4, key), value);
                x.write(5, key, 1);
                x.get(5, key);
                due.is("old copy", x.get(4, key), 1000 + value);
                due.is("due", x.due(0, 2), 500 + key);
            }
        }
    }

    private void sixtyWrites() {
        due.about("WRITES, numbered from 1 (60 at most)");
        LookAsideCache x = fresh();
        for (int n = 1; n <= 60; n++) {
            due.is("number", x.write(n % 6, n % 10, n), n);
        }
        due.is("61st", x.write(0, 0, 0), FULL);
        due.is("none came", x.count(0), 60);
        due.is("the last", x.store(0, 0, 0), 60);
        due.is("within all", x.within(0, 60, 1), 60);
        due.is("within the first", x.within(1, 1, 0), 1);
        for (int n = 1; n <= 60; n++) {
            due.is("apply", x.apply(1), n);
        }
        due.is("no more", x.apply(1), NOT);
        x.undo();
        x.undo();
        due.is("the last but one again", x.apply(1), 59);
    }

    private void noWriteYet() {
        due.about("VERSION 0: none was; VALUE 0");
        for (int key = 0; key < 10; key++) {
            LookAsideCache x = fresh();
            for (int other = 0; other < 10; other++) {
                if (other != key) {
                    x.write(2, other, 500 + other);
                    x.apply(1);
                    x.apply(0);
                }
            }
            for (int r = 0; r < 3; r++) {
                due.is("value", x.store(r, key, 0), 0);
                due.is("version", x.store(r, key, 1), 0);
            }
            for (int n = 0; n <= 9; n++) {
                due.is("within", x.within(key, n, 0) + x.within(key, n, 1), 0);
            }
            for (int c = 0; c < 6; c++) {
                x.get(c, key);
                due.is("look", x.look(c), 0);
                due.is("its version", x.client(c, 5), 0);
                x.fill(c);
                due.is("entry", x.entry(c, key, 0) + x.entry(c, key, 1), 0);
                due.is("no lag", x.lag(c, key), 0);
                due.is("own", x.own(c, key), 1);
                due.is("not outdated", x.outdated(c), 0);
            }
        }
    }

    private void storeOfHome() {
        due.about("STORE 0 has of each KEY the last WRITE");
        LookAsideCache x = fresh();
        x.write(4, 1, 11);
        due.is("written abroad, applied nowhere", x.store(0, 1, 0), 11);
        x.write(0, 1, 12);
        due.is("the last one", x.store(0, 1, 0), 12);
        x.apply(0);
        due.is("not the one at its PLACE", x.store(0, 1, 1), 2);
        x.get(0, 1);
        due.is("looked at", x.look(0), 12);
        x.write(3, 2, 21);
        due.is("another key's", x.store(0, 1, 1), 2);
    }

    private void storesAbroad() {
        due.about("STORES 1, 2: WRITES 1 up to its PLACE (0 at first; HOME has a PLACE, too)");
        int[] keys = {1, 2, 1, 1, 3};
        for (int r = 1; r < 3; r++) {
            LookAsideCache x = fresh();
            for (int n = 0; n < keys.length; n++) {
                x.write(0, keys[n], 10 + n);
            }
            for (int place = 0; place <= keys.length; place++) {
                due.is("place", x.region(r, 0), place);
                due.is("behind it", x.region(r, 1), keys.length - place);
                due.is("the other's place", x.region(3 - r, 0), 0);
                for (int key = 1; key <= 3; key++) {
                    due.is("value", x.store(r, key, 0), x.within(key, place, 0));
                    due.is("version", x.store(r, key, 1), x.within(key, place, 1));
                    due.is("the other's", x.store(3 - r, key, 1), 0);
                }
                x.apply(r);
            }
            due.is("home's", x.region(0, 0), 0);
            due.is("home's moves by itself", x.apply(0), 1);
            due.is("home's", x.region(0, 0), 1);
            due.is("no more than the writes", x.region(r, 0), keys.length);
        }
    }

    // ---- ends

    /** One of each kind, by settings that are all the same number, at tick 7. */
    private static LookAsideCache oneOfEach(int ticks) {
        LookAsideCache x = fresh();
        for (int what = 1; what <= 4; what++) {
            x.set(what, ticks);
        }
        x.cold(1, 1);
        x.tick(7);
        load(x, 0, 2);
        x.get(0, 4);
        x.write(1, 5, 5);
        load(x, 2, 3);
        x.write(2, 3, 3);
        return x;
    }

    private static int there(LookAsideCache x) {
        int bits = x.entry(0, 2, 0) == NOT ? 0 : 1;
        bits |= x.beside(2, 3, 0) == NOT ? 0 : 2;
        bits |= x.beside(0, 4, 2) == NOT ? 0 : 4;
        return bits | (x.beside(1, 5, 5) == NOT ? 0 : 8);
    }

    private void endsAreToldWhenTheyCome() {
        due.about("an END is told when it comes (NOW and LIFE, KEEP, TERM, HOLD)");
        for (int ticks : new int[] {1, 20}) {
            LookAsideCache x = oneOfEach(ticks);
            for (int again = 0; again < 2; again++) {
                due.is("entry", x.entry(0, 2, 5), 7 + ticks);
                due.is("old copy", x.beside(2, 3, 1), 7 + ticks);
                due.is("lease", x.beside(0, 4, 4), 7 + ticks);
                due.is("hold-off", x.beside(1, 5, 5), 7 + ticks);
                for (int what = 1; what <= 4; what++) {
                    x.set(what, 9);
                }
                x.get(0, 2);
            }
        }
        LookAsideCache x = fresh();
        x.set(1, 99);
        load(x, 0, 2);
        due.is("LIFE 99", x.entry(0, 2, 5), 99);
        x.tick(50);
        x.tick(48);
        due.is("there", x.get(0, 2), 0);
        x.tick(1);
        due.is("gone", x.get(0, 2), LEASED);
    }

    private void goneAtTheEnd() {
        due.about("when NOW is its END or more it is gone");
        for (int ticks : new int[] {1, 2, 20}) {
            LookAsideCache x = oneOfEach(ticks);
            due.is("all there", there(x), 15);
            if (ticks > 1) {
                x.tick(ticks - 1);
                due.is("all there just ahead", there(x), 15);
            }
            x.tick(1);
            due.is("none at the end", there(x), 0);
            due.is("no due", x.due(0, 0), NOT);
            due.is("no least", x.least(0, 0), NOT);
            due.is("no lag", x.lag(0, 2), NOT);
            due.is("no own", x.own(0, 2), NOT);
            due.is("no entries", x.count(1), 0);
            due.is("no leases", x.count(2), 0);
            x.row(0, 3);
            due.is("none to save", x.save(0, 3, 0), 0);
            x = oneOfEach(ticks);
            x.tick(50);
            due.is("none behind the end", there(x), 0);
            x.undo();
            due.is("all back", there(x), 15);
        }
    }

    private void endsTogether() {
        due.about("what is gone makes way for what a GET, LOOK, FILL finds");
        LookAsideCache x = oneOfEach(5);
        x.tick(5);
        due.is("entry is gone: a miss", x.get(0, 2), LEASED);
        due.is("lease is gone: another's", x.go(5, 0) + x.get(5, 4), 5 + LEASED);
        due.is("old copy is gone", x.get(2, 3) + x.go(4, 2) + x.get(4, 3), LEASED + 4 + WAITS);
        x = oneOfEach(5);
        load(x, 0, 5);
        x.get(1, 5);
        x.look(1);
        due.is("of the neighbour", x.client(1, 6), 1);
        due.is("held off", x.fill(1), 0);
        x.set(3, 20);
        x.tick(5);
        x.get(1, 5);
        x.look(1);
        due.is("the neighbour's is gone", x.client(1, 6), 0);
    }

    // ---- at most one

    private void atMostOneEntry() {
        due.about("at most one ENTRY");
        LookAsideCache x = fresh();
        x.set(6, 0);
        x.go(1, 0);
        x.get(0, 1);
        x.get(1, 1);
        x.look(0);
        x.write(5, 1, 7);
        x.look(1);
        x.fill(1);
        x.get(1, 1);
        x.tick(1);
        x.fill(0);
        due.is("one", x.count(1), 1);
        due.is("the later one", x.entry(0, 1, 0), 0);
        due.is("its hits", x.entry(0, 1, 4), 0);
        due.is("born", x.entry(0, 1, 2), 1);
        due.is("used", x.entry(0, 1, 3), 1);
        due.is("its end", x.entry(0, 1, 5), 51);
        due.is("none gave way", x.led(7), 0);
        due.is("none was deleted", x.led(8), 0);
    }

    private void atMostOneOldCopy() {
        due.about("at most one OLD copy");
        LookAsideCache x = fresh();
        x.write(0, 1, 11);
        load(x, 0, 1);
        x.write(0, 1, 12);
        load(x, 0, 1);
        x.tick(2);
        x.write(0, 1, 13);
        due.is("the later one", x.beside(0, 1, 0), 12);
        due.is("its end", x.beside(0, 1, 1), 7);
        due.is("one", x.settled(2), 1);
    }

    private void atMostOneLease() {
        due.about("at most one LEASE");
        LookAsideCache x = fresh();
        x.get(0, 1);
        x.tick(6);
        x.go(1, 0);
        x.get(1, 1);
        due.is("one", x.count(2), 1);
        due.is("the later one", x.beside(0, 1, 2), 1);
        due.is("its token", x.beside(0, 1, 3), 2);
        due.is("one due", x.due(1, 0), NOT);
    }

    private void atMostOneHoldOff() {
        due.about("at most one HOLD-OFF");
        LookAsideCache x = fresh();
        x.cold(0, 1);
        x.set(4, 20);
        x.write(0, 1, 1);
        x.set(4, 3);
        x.tick(1);
        x.write(0, 1, 1);
        due.is("the later one, though it ends earlier", x.beside(0, 1, 5), 4);
        due.is("one due", x.due(1, 0), NOT);
    }

    private void atMostOneMarker() {
        due.about("Each REGION but HOME has of each KEY at most one MARKER");
        LookAsideCache x = fresh();
        x.write(2, 0, 1);
        x.write(3, 0, 2);
        due.is("one", x.count(3), 1);
        due.is("the later one", x.store(1, 0, 2), 2);
        x.write(4, 0, 3);
        x.write(2, 9, 4);
        due.is("three", x.count(3), 3);
        due.is("as it was", x.store(1, 0, 2), 2);
        due.is("the other region's", x.store(2, 0, 2), 3);
        due.is("the other key's", x.store(1, 9, 2), 4);
        due.is("none", x.store(2, 9, 2), NOT);
    }

    private void homeHasNoMarker() {
        due.about("Each REGION but HOME");
        LookAsideCache x = fresh();
        for (int key = 0; key < 10; key++) {
            x.write(key % 2, key, 5);
            due.is("none", x.store(0, key, 2), NOT);
        }
        due.is("none at all", x.count(3), 0);
        for (int n = 0; n < 10; n++) {
            x.apply(0);
        }
        for (int g = 0; g < 6; g++) {
            x.cold(g, 1);
        }
        due.is("none", x.count(3), 0);
    }

    private void atMostOneHand() {
        due.about("Each CLIENT has at most one HAND");
        LookAsideCache x = fresh();
        for (int key = 0; key < 10; key++) {
            x.get(5, key);
            due.is("key", x.client(5, 1), key);
            due.is("token", x.client(5, 2), key + 1);
            due.is("one", x.count(4), 1);
        }
        due.is("ten leases", x.count(2), 10);
        due.is("no entry", x.count(1), 0);
        for (int c = 0; c < 6; c++) {
            x.get(c, 9);
        }
        due.is("six", x.count(4), 6);
        load(x, 0, 0);
        due.is("five", x.count(4), 5);
        due.is("one entry", x.count(1), 1);
    }

    private void warmAtFirst() {
        due.about("A GROUP is WARM (at first) or COLD");
        for (int g = 0; g < 6; g++) {
            LookAsideCache x = fresh();
            x.write(g, 3, 3);
            due.is("no hold-off", x.beside(g, 3, 5), NOT);
            due.is("warm", x.cold(g, 1), 0);
            x.write(g, 3, 3);
            due.is("a hold-off", x.beside(g, 3, 5), 2);
            due.is("cold", x.cold(g, 0), 1);
            for (int other = 0; other < 6; other++) {
                due.is("warm", x.cold(other, 0), 0);
            }
        }
    }

    // ---- least

    private void leastOfLikeOnes() {
        due.about("of like ones the least KEY");
        for (int policy = 0; policy < 4; policy++) {
            LookAsideCache x = fresh();
            x.set(0, 8);
            for (int key = 9; key >= 3; key--) {
                load(x, 3, key);
                due.is("policy " + policy, x.least(3, policy), key);
            }
            load(x, 3, 0);
            due.is("policy " + policy, x.least(3, policy), 0);
        }
    }

    private void leastByEach() {
        due.about("0 USED, 1 HITS, 2 BORN, 3 VERSION");
        LookAsideCache x = fresh();
        x.write(0, 6, 1);
        x.write(0, 7, 1);
        x.write(0, 8, 1);
        load(x, 0, 8);
        x.tick(1);
        load(x, 0, 7);
        x.tick(1);
        load(x, 0, 9);
        load(x, 0, 6);
        x.get(0, 8);
        x.get(0, 8);
        x.get(0, 9);
        x.get(0, 6);
        x.get(0, 6);
        x.tick(1);
        x.get(0, 7);
        x.get(0, 7);
        due.is("used", x.least(0, 0), 6);
        due.is("hits", x.least(0, 1), 9);
        due.is("born", x.least(0, 2), 8);
        due.is("version", x.least(0, 3), 9);
        due.is("used is not hits", x.entry(0, 6, 4), 2);
        for (int policy = 0; policy < 4; policy++) {
            int[] leaves = {6, 9, 8, 9};
            x.set(5, policy);
            load(x, 0, 1);
            due.is("gives way by " + policy, x.entry(0, leaves[policy], 0), NOT);
            x.undo();
            x.undo();
            x.undo();
        }
    }

    private void leastOfThisGroupAlone() {
        due.about("LEAST of the ENTRIES of a GROUP");
        for (int g = 1; g < 5; g++) {
            LookAsideCache x = fresh();
            x.tick(1);
            for (int other = 0; other < 6; other++) {
                if (other != g) {
                    load(x, other, 0);
                    load(x, other, 9);
                }
            }
            for (int policy = 0; policy < 4; policy++) {
                due.is("none", x.least(g, policy), NOT);
            }
            x.write(g, 4, 4);
            x.go(0, g);
            x.tick(1);
            load(x, 0, 4);
            x.get(0, 4);
            for (int policy = 0; policy < 4; policy++) {
                due.is("its own", x.least(g, policy), 4);
            }
        }
    }

    private void leastOfThoseThere() {
        due.about("LEAST of those that are there");
        LookAsideCache x = fresh();
        x.set(1, 3);
        load(x, 0, 1);
        x.set(1, 50);
        x.tick(1);
        load(x, 0, 5);
        due.is("the first", x.least(0, 2), 1);
        x.tick(2);
        due.is("gone", x.least(0, 2), 5);
        x.write(0, 5, 5);
        due.is("deleted", x.least(0, 2), NOT);
    }
}
