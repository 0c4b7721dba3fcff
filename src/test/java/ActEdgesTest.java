/** The edges that part 2 of the document's terms names: each act where it has nothing, enough, too much. */
public final class ActEdgesTest extends Steps {
    private final Due due = new Due();

    public static void main(String[] args) {
        ActEdgesTest t = new ActEdgesTest();
        t.getOfAnEntry();
        t.getBesideAnothersLease();
        t.getBesideItsOwnLease();
        t.getBesideAnOldCopyAlone();
        t.getWithANewHand();
        t.getTokens();
        t.getWithoutLeases();
        t.lookWithoutHand();
        t.lookAtTheNeighbour();
        t.lookByTheMarker();
        t.lookAtTheStore();
        t.lookAgain();
        t.fillWithoutLook();
        t.fillRefusedByTheLease();
        t.fillRefusedByTheHoldOff();
        t.fillRefusedEndsTheHandAlone();
        t.fillEndsWhatThereIs();
        t.fillOfWhatWasLookedAt();
        t.fillGivesWay();
        t.fillByThePolicy();
        t.fillWhereWhatIsGoneStood();
        t.writeMarks();
        t.writeDeletesInItsGroup();
        t.writeWhenFull();
        t.deletedWithoutKeep();
        t.deletedWithoutEntry();
        t.deletedHoldOff();
        t.deletedLeases();
        t.applyByNumbers();
        t.applyDeletesInBoth();
        t.applyAndTheMarker();
        t.ticks();
        t.nextStops();
        t.coldEndsAll();
        t.warmEndsHoldOffs();
        t.coldAgain();
        t.goEverywhere();
        t.goLeavesTheLease();
        t.setAndWhatThereIs();
        t.due.end();
    }

    // ---- GET

    private void getOfAnEntry() {
        due.about("GET: an ENTRY is there: its USED is NOW, HITS one more");
        LookAsideCache x = fresh();
        x.write(1, 0, 999);
        load(x, 0, 0);
        load(x, 1, 0);
        load(x, 0, 9);
        x.tick(49);
        due.is("hit", x.get(0, 0), 999);
        due.is("used", x.entry(0, 0, 3), 49);
        due.is("hits", x.entry(0, 0, 4), 1);
        due.is("its end stays", x.entry(0, 0, 5), 50);
        due.is("born stays", x.entry(0, 0, 2), 0);
        due.is("another key's", x.entry(0, 9, 3) + x.entry(0, 9, 4), 0);
        due.is("another group's", x.entry(1, 0, 3) + x.entry(1, 0, 4), 0);
        due.is("no hand", x.count(4), 0);
        x.tick(1);
        due.is("gone", x.get(0, 0), LEASED);

        x = fresh();
        x.get(0, 1);
        x.set(6, 0);
        x.go(1, 0);
        load(x, 1, 1);
        x.set(6, 1);
        due.is("a hit with a hand for it", x.get(0, 1), 0);
        due.is("the hand stays", x.client(0, 1), 1);
    }

    private void getBesideAnothersLease() {
        due.about("GET: a LEASE of another CLIENT: an OLD copy: 1000 and its VALUE; none: WAITS");
        LookAsideCache x = fresh();
        x.go(5, 0);
        x.get(0, 1);
        due.is("none", x.get(5, 1), WAITS);
        due.is("another key", x.get(5, 2), LEASED);
        due.is("its hand for another key stays", x.get(5, 1) + x.client(5, 1), WAITS + 2);
        due.is("the lease stays", x.beside(0, 1, 3), 1);
        due.is("another group", x.get(1, 1), LEASED);
        x.tick(5);
        due.is("just ahead of its end", x.get(5, 1), WAITS);
        x.tick(1);
        due.is("at its end", x.get(5, 1), LEASED);
        for (int value : new int[] {0, 1, 999}) {
            x = fresh();
            x.go(5, 0);
            x.write(0, 1, value);
            load(x, 0, 1);
            x.write(0, 1, 500);
            x.get(0, 1);
            due.is("old copy", x.get(5, 1), 1000 + value);
            due.is("again", x.get(5, 1), 1000 + value);
            due.is("no hand by it", x.client(5, 1), NOT);
        }
    }

    private void getBesideItsOwnLease() {
        due.about("GET: its own: LEASED (nothing changes; its HAND may be for another KEY by now)");
        LookAsideCache x = fresh();
        x.write(0, 1, 11);
        load(x, 0, 1);
        x.write(0, 1, 12);
        x.get(0, 1);
        x.look(0);
        x.tick(1);
        due.is("though there is an old copy", x.get(0, 1), LEASED);
        due.is("it has still looked", x.client(0, 4), 12);
        due.is("the same token", x.client(0, 2), 2);
        due.is("the same end", x.beside(0, 1, 4), 6);
        due.is("not led", x.led(1), 2);
        due.is("nor as an old one", x.led(3), 0);
        x.get(0, 3);
        due.is("for another key by now", x.get(0, 1), LEASED);
        due.is("hand stays there", x.client(0, 1), 3);
        x.fill(0);
        x.look(0);
        x.fill(0);
        due.is("no hand by now", x.get(0, 1), LEASED);
        due.is("still none", x.client(0, 1), NOT);
        x.go(0, 1);
        due.is("at another group it has none", x.get(0, 1), LEASED);
        due.is("a new one", x.client(0, 2), 4);
        x.go(0, 0);
        due.is("at the first it still is", x.get(0, 1), LEASED);
        due.is("with no hand", x.client(0, 1), NOT);
    }

    private void getBesideAnOldCopyAlone() {
        due.about("GET: an OLD copy without a LEASE is not given");
        LookAsideCache x = fresh();
        x.write(0, 1, 11);
        load(x, 0, 1);
        x.write(0, 1, 12);
        due.is("the first is leased", x.get(0, 1), LEASED);
        due.is("the old copy stays", x.beside(0, 1, 0), 11);
    }

    private void getWithANewHand() {
        due.about("GET: a HAND for the KEY (another one ends), not LOOKED");
        LookAsideCache x = fresh();
        x.get(0, 1);
        x.look(0);
        x.get(0, 2);
        due.is("not looked", x.client(0, 3), 0);
        due.is("no value", x.client(0, 4), NOT);
        due.is("no fill", x.fill(0), STATE);
        due.is("the first lease stays", x.beside(0, 1, 2), 0);
        x.look(0);
        due.is("fills the second", x.fill(0), 1);
        due.is("not the first", x.entry(0, 1, 0), NOT);
        due.is("the second", x.entry(0, 2, 0), 0);
    }

    private void getTokens() {
        due.about("GET: a TOKEN one more than the latest ever (1 at first)");
        LookAsideCache x = fresh();
        int[] clients = {3, 3, 0, 5, 0};
        for (int n = 0; n < clients.length; n++) {
            x.get(clients[n], n);
            due.is("token", x.client(clients[n], 2), n + 1);
            due.is("its lease's", x.beside(clients[n], n, 3), n + 1);
        }
        x.write(3, 0, 1);
        x.write(3, 1, 1);
        x.tick(50);
        x.get(2, 0);
        due.is("though all have ended", x.client(2, 2), 6);
        x.set(6, 0);
        x.get(2, 1);
        x.set(6, 1);
        x.get(2, 2);
        due.is("one with 0 doesn't count", x.client(2, 2), 7);
    }

    private void getWithoutLeases() {
        due.about("GET: LEASES 0: TOKEN 0, no LEASE; one that is there is not looked at");
        LookAsideCache x = fresh();
        x.go(1, 0);
        x.write(0, 1, 11);
        load(x, 0, 1);
        x.write(0, 1, 12);
        x.get(0, 1);
        x.set(6, 0);
        due.is("another's lease, an old copy", x.get(1, 1), LEASED);
        due.is("token", x.client(1, 2), 0);
        due.is("the lease stays", x.beside(0, 1, 2), 0);
        due.is("its own lease: anew", x.get(0, 1), LEASED);
        due.is("token", x.client(0, 2), 0);
        due.is("all are led", x.led(1), 4);
        x.look(0);
        x.get(0, 1);
        due.is("not looked", x.client(0, 3), 0);
        x.set(6, 1);
        due.is("looked at again", x.get(1, 1), 1011);
        due.is("the hand stays", x.client(1, 2), 0);
    }

    // ---- LOOK

    private void lookWithoutHand() {
        due.about("LOOK: STATE: it has none");
        LookAsideCache x = fresh();
        due.is("at first", x.look(0), STATE);
        load(x, 0, 1);
        due.is("behind a fill", x.look(0), STATE);
        x.get(0, 1);
        due.is("behind a hit", x.look(0), STATE);
        x.go(1, 0);
        x.get(0, 2);
        x.get(1, 2);
        due.is("behind a wait", x.look(1), STATE);
        x.go(0, 3);
        due.is("behind a going", x.look(0), STATE);
        due.is("no load by them", x.region(0, 2), 1);
        x.get(0, 2);
        x.tick(50);
        due.is("a hand has no end", x.look(0), 0);
    }

    private void lookAtTheNeighbour() {
        due.about("LOOK: COLD, the NEIGHBOUR WARM and has an ENTRY of the KEY: from there");
        for (int g = 0; g < 6; g++) {
            LookAsideCache x = fresh();
            int beside = g % 2 == 0 ? g + 1 : g - 1;
            x.write(beside, 9, 11);
            load(x, beside, 9);
            x.write(g, 9, 12);
            x.cold(g, 1);
            x.get(g, 9);
            due.is("ahead of a marker", x.look(g), 11);
            due.is("version", x.client(g, 5), 1);
            due.is("from it", x.client(g, 6), 1);
            due.is("led", x.led(6), 1);
            x.cold(beside, 1);
            x.look(g);
            due.is("both cold", x.client(g, 6), 0);
            x.undo();
            x.undo();
            x.cold(g, 0);
            x.look(g);
            due.is("both warm", x.client(g, 6), 0);
            x.cold(g, 1);
            x.write(beside, 9, 13);
            x.look(g);
            due.is("an old copy is none", x.client(g, 6), 0);
            x.get(g, 8);
            x.look(g);
            due.is("another key", x.client(g, 6), 0);
        }
        LookAsideCache x = fresh();
        load(x, 0, 1);
        x.cold(1, 1);
        x.get(1, 1);
        x.tick(49);
        x.look(1);
        due.is("just ahead of its end", x.client(1, 6), 1);
        due.is("neither used nor hits", x.entry(0, 1, 3) + x.entry(0, 1, 4), 0);
        due.is("no hit ever", x.led(0), 0);
        x.tick(1);
        x.look(1);
        due.is("at its end", x.client(1, 6), 0);
    }

    private void lookByTheMarker() {
        due.about("LOOK: its REGION has a MARKER of the KEY: from STORE 0");
        LookAsideCache x = fresh();
        x.write(2, 1, 11);
        x.write(0, 1, 12);
        for (int c = 2; c < 6; c++) {
            x.get(c, 1);
            due.is("marker in region 1 alone", x.look(c), c < 4 ? 12 : 0);
            x.get(c, 2);
            due.is("another key", x.look(c), 0);
        }
        due.is("loads of 0", x.region(0, 2), 2);
        due.is("loads of 1", x.region(1, 2), 2);
        due.is("loads of 2", x.region(2, 2), 4);
        x.tick(6);
        x.get(3, 1);
        x.look(3);
        due.is("the last write's version", x.client(3, 5), 2);
        x.apply(1);
        due.is("the marker went: its own store", x.look(3), 11);
        due.is("version", x.client(3, 5), 1);
    }

    private void lookAtTheStore() {
        due.about("LOOK: else from the STORE of its REGION");
        LookAsideCache x = fresh();
        x.write(0, 1, 11);
        x.write(0, 1, 12);
        x.apply(2);
        int[] values = {12, 0, 11};
        for (int r = 0; r < 3; r++) {
            x.get(2 * r + 1, 1);
            due.is("region " + r, x.look(2 * r + 1), values[r]);
            due.is("its load", x.region(r, 2), 1);
        }
    }

    private void lookAgain() {
        due.about("LOOK: it has LOOKED (again, anew)");
        LookAsideCache x = fresh();
        x.get(0, 1);
        for (int n = 1; n <= 3; n++) {
            x.write(5, 1, n);
            due.is("anew", x.look(0), n);
            due.is("value", x.client(0, 4), n);
            due.is("version", x.client(0, 5), n);
            due.is("each is a load", x.region(0, 2), n);
        }
        load(x, 1, 1);
        x.cold(0, 1);
        x.look(0);
        due.is("now from the neighbour", x.client(0, 6), 1);
        x.cold(0, 0);
        x.look(0);
        due.is("now not", x.client(0, 6), 0);
    }

    // ---- FILL

    private void fillWithoutLook() {
        due.about("FILL: STATE: none has LOOKED");
        LookAsideCache x = fresh();
        due.is("no hand", x.fill(0), STATE);
        x.get(0, 1);
        due.is("not looked", x.fill(0), STATE);
        due.is("the hand stays", x.client(0, 1), 1);
        x.look(0);
        x.go(0, 0);
        due.is("gone", x.fill(0), STATE);
        x.set(6, 0);
        x.get(0, 1);
        due.is("not looked", x.fill(0), STATE);
        due.is("not led", x.led(4) + x.led(5), 0);
    }

    private void fillRefusedByTheLease() {
        due.about("FILL: REFUSED (0), if LEASES is 1 and its GROUP has no LEASE of the KEY with its TOKEN");
        LookAsideCache x = fresh();
        x.get(0, 1);
        x.look(0);
        x.tick(5);
        due.is("just ahead of its end", x.fill(0), 1);
        x.undo();
        x.tick(1);
        due.is("at its end", x.fill(0), 0);

        x = fresh();
        x.get(0, 1);
        x.look(0);
        x.write(0, 1, 5);
        x.get(0, 1);
        due.is("a new hand must look", x.fill(0), STATE);
        x.look(0);
        due.is("with the new token", x.fill(0), 1);

        x = fresh();
        x.go(1, 0);
        x.get(0, 1);
        x.look(0);
        x.write(1, 1, 5);
        x.get(1, 1);
        due.is("a lease with another token", x.fill(0), 0);
        x.look(1);
        due.is("the other's is done", x.fill(1), 1);
        due.is("refused", x.led(5), 1);
        due.is("done", x.led(4), 1);

        x = fresh();
        x.get(0, 1);
        x.look(0);
        x.cold(0, 1);
        due.is("ended by cold", x.fill(0), 0);
        x.get(0, 2);
        x.look(0);
        x.set(6, 0);
        x.write(0, 2, 5);
        due.is("LEASES 0: done without any", x.fill(0), 1);
        x.set(6, 1);
        x.write(0, 3, 3);
        x.set(6, 0);
        x.get(0, 3);
        x.look(0);
        x.set(6, 1);
        due.is("TOKEN 0 without a lease", x.fill(0), 0);
    }

    /** Client 1 at a cold group 1 with a hold-off of key 1 has looked at the neighbour. */
    private static LookAsideCache heldOff() {
        LookAsideCache x = fresh();
        x.set(3, 20);
        load(x, 0, 1);
        x.cold(1, 1);
        x.write(1, 1, 5);
        x.get(1, 1);
        x.look(1);
        return x;
    }

    private void fillRefusedByTheHoldOff() {
        due.about("FILL: REFUSED, if it was from the NEIGHBOUR and the GROUP has a HOLD-OFF of the KEY");
        LookAsideCache x = heldOff();
        due.is("refused", x.fill(1), 0);
        x = heldOff();
        x.tick(1);
        due.is("just ahead of its end", x.fill(1), 0);
        x = heldOff();
        x.tick(2);
        due.is("at its end", x.fill(1), 1);
        x = heldOff();
        x.set(6, 0);
        due.is("LEASES 0: refused, too", x.fill(1), 0);
        x = heldOff();
        x.cold(1, 0);
        due.is("warm by now: no hold-off", x.fill(1), 1);
        x = heldOff();
        x.cold(0, 1);
        due.is("the neighbour's end doesn't matter", x.fill(1), 0);
        x = heldOff();
        x.cold(0, 1);
        x.look(1);
        due.is("from a store", x.fill(1), 1);
        x = heldOff();
        x.get(1, 2);
        load(x, 0, 2);
        x.look(1);
        due.is("of another key", x.client(1, 6) + 10 * x.fill(1), 11);
    }

    private void fillRefusedEndsTheHandAlone() {
        due.about("FILL: the HAND ends, also if it is REFUSED; nothing else does");
        LookAsideCache x = heldOff();
        x.fill(1);
        due.is("the hand ends", x.client(1, 1), NOT);
        due.is("the lease stays", x.beside(1, 1, 3), 2);
        due.is("the hold-off stays", x.beside(1, 1, 5), 2);
        due.is("no entry", x.entry(1, 1, 0), NOT);

        x = fresh();
        x.go(1, 0);
        x.write(0, 1, 11);
        load(x, 0, 1);
        x.get(1, 2);
        x.look(1);
        x.write(0, 1, 12);
        x.get(1, 1);
        x.look(1);
        x.write(0, 1, 13);
        x.get(0, 1);
        due.is("refused", x.fill(1), 0);
        due.is("the old copy stays", x.beside(0, 1, 0), 11);
        due.is("the other's lease stays", x.beside(0, 1, 2), 0);
        x.look(0);
        x.fill(0);
        x.set(6, 0);
        x.set(0, 1);
        x.get(1, 3);
        x.look(1);
        x.set(6, 1);
        due.is("refused", x.fill(1), 0);
        due.is("none gives way", x.entry(0, 1, 0), 13);
    }

    private void fillEndsWhatThereIs() {
        due.about("FILL: the GROUP's LEASE, OLD copy, ENTRY of the KEY (what there is) end");
        LookAsideCache x = fresh();
        x.go(1, 0);
        x.write(0, 1, 11);
        load(x, 0, 1);
        x.write(0, 1, 12);
        x.get(0, 1);
        x.set(6, 0);
        x.get(1, 1);
        x.look(1);
        due.is("done", x.fill(1), 1);
        due.is("another's lease ends", x.beside(0, 1, 2), NOT);
        due.is("the old copy ends", x.beside(0, 1, 0), NOT);
        due.is("not as deleted", x.led(9) + x.led(8), 1);
        x.get(1, 2);
        x.set(6, 1);
        due.is("of another key: ", x.beside(0, 2, 2), NOT);
        x.get(0, 3);
        x.set(6, 0);
        x.look(1);
        x.fill(1);
        due.is("another key's lease stays", x.beside(0, 3, 2), 0);

        x = fresh();
        x.cold(0, 1);
        x.write(0, 1, 5);
        load(x, 0, 1);
        due.is("the hold-off stays", x.beside(0, 1, 5), 2);
        load(x, 1, 1);
        x.get(1, 2);
        x.get(0, 2);
        x.look(0);
        x.fill(0);
        due.is("the other group's lease stays", x.beside(1, 2, 2), 1);
        due.is("the other group's entry stays", x.entry(1, 1, 0), 5);
    }

    private void fillOfWhatWasLookedAt() {
        due.about("FILL: a new ENTRY: VALUE, VERSION, BORN, USED NOW, HITS 0");
        LookAsideCache x = fresh();
        x.write(5, 1, 11);
        x.get(0, 1);
        x.tick(2);
        x.look(0);
        x.write(5, 1, 12);
        x.tick(3);
        due.is("done", x.fill(0), 1);
        int[] parts = {11, 1, 5, 5, 0, 55};
        for (int what = 0; what < 6; what++) {
            due.is("part " + what, x.entry(0, 1, what), parts[what]);
        }
        x.cold(1, 1);
        x.get(1, 1);
        x.look(1);
        x.write(0, 1, 13);
        x.tick(1);
        due.is("the neighbour's, which is no more", x.fill(1), 1);
        due.is("its version", x.entry(1, 1, 1), 1);
        due.is("born now", x.entry(1, 1, 2), 6);
    }

    private void fillGivesWay() {
        due.about("FILL: as long as there are ROOM ENTRIES or more, the LEAST ends (no OLD copy of it)");
        for (int room = 1; room <= 8; room++) {
            LookAsideCache x = fresh();
            x.set(0, room);
            for (int key = 0; key < 10; key++) {
                load(x, 2, key);
                due.is("room " + room, x.count(1), Math.min(key + 1, room));
                due.is("gave way", x.led(7), Math.max(0, key + 1 - room));
            }
            for (int key = 0; key < 10; key++) {
                due.is("by used, the least key", x.entry(2, key, 0), key >= 10 - room ? 0 : NOT);
                due.is("no old copy", x.beside(2, key, 0), NOT);
            }
        }
        for (int room = 1; room <= 8; room++) {
            LookAsideCache x = fresh();
            x.set(0, 8);
            for (int key = 0; key < 8; key++) {
                load(x, 0, key);
                x.tick(1);
            }
            due.is("eight", x.count(1), 8);
            x.set(0, room);
            due.is("none goes by the setting", x.count(1), 8);
            load(x, 0, 9);
            due.is("as many as it takes", x.count(1), room);
            due.is("gave way", x.led(7), 9 - room);
            due.is("the last stays if it may", x.entry(0, 7, 0), room > 1 ? 0 : NOT);
            due.is("the first doesn't", x.entry(0, 0, 0), NOT);
            due.is("not deleted", x.led(8), 0);
        }
        LookAsideCache x = fresh();
        x.set(0, 1);
        load(x, 0, 1);
        load(x, 1, 2);
        due.is("another group's don't count", x.count(1), 2);
        x.set(6, 0);
        x.set(0, 2);
        x.get(0, 5);
        x.look(0);
        x.go(1, 0);
        load(x, 1, 5);
        x.set(0, 1);
        due.is("its own ended first: one more gives way", x.fill(0) + x.led(7), 2);
    }

    private void fillByThePolicy() {
        due.about("FILL: the LEAST by POLICY");
        int[] leaves = {4, 3, 2, 1};
        for (int policy = 0; policy < 4; policy++) {
            LookAsideCache x = fresh();
            for (int n = 1; n <= 4; n++) {
                x.write(5, n, n);
            }
            x.set(5, policy);
            load(x, 0, 2);
            x.tick(1);
            load(x, 0, 4);
            x.get(0, 4);
            x.tick(1);
            load(x, 0, 1);
            load(x, 0, 3);
            x.get(0, 1);
            x.get(0, 2);
            load(x, 0, 9);
            due.is("policy " + policy, x.entry(0, leaves[policy], 0), NOT);
            due.is("one", x.count(1), 4);
        }
    }

    private void fillWhereWhatIsGoneStood() {
        due.about("FILL: ENTRIES that are gone take no ROOM");
        LookAsideCache x = fresh();
        x.set(0, 1);
        x.set(1, 2);
        load(x, 0, 1);
        x.tick(1);
        load(x, 0, 2);
        due.is("there: it gives way", x.led(7), 1);
        x.tick(2);
        load(x, 0, 3);
        due.is("gone: none gives way", x.led(7), 1);
        x.tick(1);
        x.write(0, 3, 3);
        load(x, 0, 4);
        due.is("deleted: none gives way", x.led(7), 1);
    }

    // ---- WRITE, DELETED, APPLY

    private void writeMarks() {
        due.about("WRITE: its REGION (but HOME) has a MARKER of the KEY: that VERSION");
        LookAsideCache x = fresh();
        for (int c = 0; c < 6; c++) {
            x.write(c, 0, c);
            due.is("home", x.store(0, 0, 2), NOT);
            due.is("region 1", x.store(1, 0, 2), c < 2 ? NOT : Math.min(c + 1, 4));
            due.is("region 2", x.store(2, 0, 2), c < 4 ? NOT : c + 1);
        }
        x.go(0, 5);
        x.write(0, 1, 1);
        due.is("where the client is by now", x.store(2, 1, 2), 7);
    }

    private void writeDeletesInItsGroup() {
        due.about("WRITE: the KEY is DELETED in its GROUP");
        for (int g = 0; g < 6; g++) {
            LookAsideCache x = fresh();
            for (int c = 0; c < 6; c++) {
                load(x, c, 1);
                load(x, c, 2);
            }
            x.write(g, 1, 5);
            for (int other = 0; other < 6; other++) {
                due.is("at " + other + " by " + g, x.entry(other, 1, 0), other == g ? NOT : 0);
                due.is("another key", x.entry(other, 2, 0), 0);
            }
            due.is("its old copy", x.beside(g, 1, 0), 0);
        }
    }

    private void writeWhenFull() {
        due.about("WRITE: FULL: nothing is DELETED, no MARKER");
        LookAsideCache x = fresh();
        for (int n = 1; n <= 60; n++) {
            x.write(0, 0, 1);
        }
        x.get(4, 1);
        x.look(4);
        due.is("full", x.write(4, 1, 5), FULL);
        due.is("no marker", x.store(2, 1, 2), NOT);
        due.is("the lease stays", x.fill(4), 1);
        due.is("full", x.write(4, 1, 5), FULL);
        due.is("the entry stays", x.entry(4, 1, 0), 0);
        x.undo();
        due.is("undone: still full", x.write(4, 1, 5), FULL);
    }

    private void deletedWithoutKeep() {
        due.about("DELETED: with KEEP 0: none");
        LookAsideCache x = fresh();
        x.set(2, 0);
        load(x, 0, 1);
        x.write(0, 1, 5);
        due.is("none", x.beside(0, 1, 0), NOT);
        due.is("no end", x.beside(0, 1, 1), NOT);
        due.is("the entry ended", x.led(8), 1);
        x.get(0, 1);
        x.go(1, 0);
        due.is("others wait", x.get(1, 1), WAITS);
        x.set(2, 1);
        x.look(0);
        x.fill(0);
        x.write(0, 1, 6);
        due.is("with KEEP 1: one", x.beside(0, 1, 0), 5);
        due.is("for a tick", x.beside(0, 1, 1), 1);
    }

    private void deletedWithoutEntry() {
        due.about("DELETED: what isn't there doesn't end");
        LookAsideCache x = fresh();
        x.write(0, 1, 5);
        due.is("no old copy", x.beside(0, 1, 0), NOT);
        due.is("not led", x.led(8) + x.led(9), 0);
        x.apply(0);
        due.is("nor by apply", x.led(8) + x.led(9), 0);
        x.set(1, 1);
        load(x, 0, 1);
        x.tick(1);
        x.write(0, 1, 6);
        due.is("an entry that is gone is none", x.beside(0, 1, 0), NOT);
        due.is("not led", x.led(8), 0);
        x.get(0, 1);
        x.tick(6);
        x.write(0, 1, 7);
        due.is("a lease that is gone is none", x.led(9), 0);
    }

    private void deletedHoldOff() {
        due.about("DELETED: if the GROUP is COLD, a HOLD-OFF (an earlier one ends; with HOLD 0: none)");
        LookAsideCache x = fresh();
        x.write(0, 1, 1);
        due.is("warm: none", x.beside(0, 1, 5), NOT);
        x.cold(0, 1);
        x.write(0, 1, 1);
        due.is("NOW and HOLD", x.beside(0, 1, 5), 2);
        x.tick(1);
        x.apply(0);
        due.is("anew by apply", x.beside(0, 1, 5), 3);
        due.is("not at the warm neighbour", x.beside(1, 1, 5), NOT);
        due.is("nor of another key", x.beside(0, 2, 5), NOT);
        x.set(4, 0);
        x.apply(0);
        due.is("HOLD 0: the earlier one ends", x.beside(0, 1, 5), NOT);
        x.write(0, 2, 1);
        due.is("HOLD 0: none", x.beside(0, 2, 5), NOT);
        x.set(4, 1);
        x.write(0, 2, 1);
        due.is("HOLD 1", x.beside(0, 2, 5), 2);
        x.tick(1);
        due.is("for a tick", x.beside(0, 2, 5), NOT);
    }

    private void deletedLeases() {
        due.about("DELETED: a LEASE ends: a late FILL is refused");
        LookAsideCache x = fresh();
        x.get(2, 1);
        x.look(2);
        x.get(3, 1);
        x.look(3);
        x.write(0, 1, 5);
        due.is("elsewhere it stays", x.count(2), 2);
        x.apply(1);
        due.is("both end", x.count(2), 0);
        due.is("led", x.led(9), 2);
        due.is("late", x.fill(2), 0);
        due.is("late", x.fill(3), 0);
        x.get(2, 1);
        x.look(2);
        due.is("in time", x.fill(2), 1);
        due.is("value", x.entry(2, 1, 0), 5);
    }

    private void applyByNumbers() {
        due.about("APPLY: the WRITE behind its PLACE (NOT: there is none)");
        for (int r = 0; r < 3; r++) {
            LookAsideCache x = fresh();
            due.is("none", x.apply(r), NOT);
            x.write(0, 1, 1);
            x.write(5, 2, 2);
            due.is("first", x.apply(r), 1);
            due.is("second", x.apply(r), 2);
            due.is("none", x.apply(r), NOT);
            due.is("place", x.region(r, 0), 2);
            x.write(3, 3, 3);
            due.is("third", x.apply(r), 3);
            due.is("none", x.apply(r), NOT);
        }
    }

    private void applyDeletesInBoth() {
        due.about("APPLY: the KEY is DELETED in both GROUPS");
        for (int r = 0; r < 3; r++) {
            LookAsideCache x = fresh();
            x.write(0, 1, 1);
            for (int c = 0; c < 6; c++) {
                load(x, c, 1);
                load(x, c, 2);
            }
            x.cold(2 * r + 1, 1);
            load(x, 2 * r + 1, 1);
            x.apply(r);
            for (int g = 0; g < 6; g++) {
                boolean ends = g / 2 == r;
                due.is("group " + g, x.entry(g, 1, 1) == NOT ? 1 : 0, ends ? 1 : 0);
                due.is("old copy at " + g, x.beside(g, 1, 1), ends ? 5 : NOT);
                due.is("hold-off at " + g, x.beside(g, 1, 5), g == 2 * r + 1 ? 2 : NOT);
            }
            due.is("another key", x.entry(2 * r, 2, 0), 0);
            due.is("led", x.led(8), 2);
        }
    }

    private void applyAndTheMarker() {
        due.about("APPLY: a MARKER goes, if its VERSION is not above that WRITE's number");
        for (int r = 1; r < 3; r++) {
            LookAsideCache x = fresh();
            x.write(0, 0, 1);
            x.write(2 * r, 0, 2);
            x.write(2 * r, 9, 3);
            x.write(0, 0, 4);
            x.write(6 - 2 * r, 0, 5);
            x.apply(r);
            due.is("above: stays", x.store(r, 0, 2), 2);
            x.apply(r);
            due.is("the same: goes", x.store(r, 0, 2), NOT);
            due.is("another key's stays", x.store(r, 9, 2), 3);
            due.is("the other region's stays", x.store(3 - r, 0, 2), 5);
            x.apply(r);
            due.is("goes", x.store(r, 9, 2), NOT);
            due.is("one is left", x.count(3), 1);
            for (int n = 1; n <= 4; n++) {
                x.apply(0);
                x.apply(3 - r);
            }
            due.is("home's apply doesn't matter", x.store(3 - r, 0, 2), 5);
        }
    }

    // ---- TICKS, COLD, WARM, go, set

    private void ticks() {
        due.about("TICKS (1 .. 50): NOW");
        LookAsideCache x = fresh();
        due.is("one", x.tick(1), 1);
        due.is("fifty", x.tick(50), 51);
        due.is("now", x.count(7), 51);
    }

    private void nextStops() {
        due.about("next: NOW becomes the END of the first DUE");
        LookAsideCache x = fresh();
        x.set(1, 99);
        x.set(3, 1);
        load(x, 5, 9);
        x.get(0, 0);
        due.is("a tick", x.next(), 1);
        due.is("more than fifty ticks", x.next(), 99);
        due.is("none", x.next(), NOT);
        due.is("now stays", x.count(7), 99);
        load(x, 5, 9);
        load(x, 5, 8);
        due.is("two at once", x.next(), 198);
        due.is("both are gone", x.count(1), 0);
        due.is("none", x.next(), NOT);
        due.is("acts", x.count(8), 15);
    }

    /** A cold group with an entry, a lease and a hold-off; others with entries, but for its neighbour. */
    private static LookAsideCache full(int group, int edge) {
        LookAsideCache x = fresh();
        for (int c = 0; c < 6; c++) {
            if (c / 2 != group / 2) {
                load(x, c, edge);
                x.get(c, 9 - edge);
            }
        }
        x.go(0, group);
        x.cold(group, 1);
        x.write(0, edge, 5);
        load(x, 0, edge);
        x.get(0, 9 - edge);
        return x;
    }

    private void coldEndsAll() {
        due.about("A GROUP becomes COLD: all its ENTRIES, OLD copies, LEASES, HOLD-OFFS end");
        for (int key = 0; key < 10; key++) {
            for (int g = 0; g < 6; g++) {
                LookAsideCache x = fresh();
                for (int c = 0; c < 6; c++) {
                    load(x, c, key);
                    load(x, c, (key + 1) % 10);
                }
                for (int c = 0; c < 6; c++) {
                    x.write(c, (key + 1) % 10, 5);
                    x.get(c, (key + 2) % 10);
                }
                due.is("was warm", x.cold(g, 1), 0);
                for (int other = 0; other < 6; other++) {
                    due.is("entry", x.entry(other, key, 0), other == g ? NOT : 0);
                    due.is("old copy", x.beside(other, (key + 1) % 10, 0), other == g ? NOT : 0);
                    due.is("lease", x.beside(other, (key + 2) % 10, 2), other == g ? NOT : other);
                }
                due.is("the hand stays", x.client(g, 1), (key + 2) % 10);
                due.is("none is led as deleted", x.led(8) + x.led(9), 6);
            }
        }
    }

    private void warmEndsHoldOffs() {
        due.about("WARM: its HOLD-OFFS end");
        for (int g = 0; g < 6; g++) {
            LookAsideCache x = fresh();
            for (int c = 0; c < 6; c++) {
                x.cold(c, 1);
                for (int key = 0; key < 10; key++) {
                    x.write(c, key, 5);
                }
            }
            due.is("was cold", x.cold(g, 0), 1);
            for (int key = 0; key < 10; key++) {
                for (int other = 0; other < 6; other++) {
                    due.is("hold-off", x.beside(other, key, 5), other == g ? NOT : 2);
                }
            }
        }
        LookAsideCache x = full(0, 0);
        x.go(1, 0);
        x.get(1, 3);
        x.write(0, 0, 6);
        due.is("a hold-off", x.beside(0, 0, 5), 2);
        due.is("was cold", x.cold(0, 0), 1);
        due.is("the old copy stays", x.beside(0, 0, 0), 5);
        due.is("the lease stays", x.beside(0, 3, 2), 1);
        due.is("no hold-off", x.beside(0, 0, 5), NOT);
    }

    private void coldAgain() {
        due.about("the same one again: nothing ends");
        for (int edge = 0; edge < 10; edge += 9) {
            for (int g = 0; g < 6; g++) {
                LookAsideCache x = full(g, edge);
                int dues = 0;
                while (x.due(dues, 0) != NOT) {
                    dues++;
                }
                due.is("cold again", x.cold(g, 1), 1);
                due.is("as many", x.due(dues - 1, 0) == NOT ? 0 : 1, 1);
                due.is("entry", x.entry(g, edge, 0), 5);
                due.is("hold-off", x.beside(g, edge, 5), 2);
                for (int other = 0; other < 6; other++) {
                    if (other != g) {
                        due.is("warm again", x.cold(other, 0), 0);
                    }
                }
                due.is("as many", x.due(dues - 1, 0) == NOT ? 0 : 1, 1);
            }
        }
    }

    private void goEverywhere() {
        due.about("A CLIENT goes to a GROUP (its own one, too): its HAND ends; where it was");
        for (int from = 0; from < 6; from++) {
            for (int to = 0; to < 6; to++) {
                LookAsideCache x = fresh();
                x.go(3, from);
                x.get(3, 1);
                x.look(3);
                x.get(2, 2);
                due.is("where it was", x.go(3, to), from);
                due.is("where it is", x.client(3, 0), to);
                due.is("no hand", x.client(3, 1), NOT);
                due.is("no look", x.look(3), STATE);
                due.is("no fill", x.fill(3), STATE);
                due.is("another's stays", x.client(2, 1), 2);
                due.is("another stays", x.client(4, 0), 4);
            }
        }
    }

    private void goLeavesTheLease() {
        due.about("A CLIENT that goes leaves its LEASE");
        LookAsideCache x = fresh();
        x.get(0, 1);
        x.go(0, 5);
        x.go(1, 0);
        due.is("others wait for it", x.get(1, 1), WAITS);
        x.go(0, 0);
        due.is("its own", x.get(0, 1), LEASED);
        due.is("with no hand", x.look(0), STATE);
        x.tick(6);
        due.is("till it is gone", x.get(0, 1), LEASED);
        due.is("a hand", x.look(0), 0);
    }

    private void setAndWhatThereIs() {
        due.about("A SETTING becomes v: what it was");
        LookAsideCache x = fresh();
        due.is("the same", x.set(0, 4), 4);
        x.go(1, 0);
        x.get(0, 1);
        due.is("LEASES 0", x.set(6, 0), 1);
        due.is("the lease stays", x.count(2), 1);
        x.look(0);
        due.is("filled without asking for it", x.fill(0), 1);
        due.is("the lease ends", x.count(2), 0);
        due.is("LEASES 1", x.set(6, 1), 0);
        for (int what = 0; what < 6; what++) {
            due.is("the others stay", x.setting(what), new int[] {4, 50, 5, 6, 2, 0}[what]);
        }
    }
}
