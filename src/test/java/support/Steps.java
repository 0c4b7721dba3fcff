/** Small steps that many tests take, and the document's numbers for what is refused. */
abstract class Steps {
    static final int BAD = -1, NOT = -2, FULL = -3, WAITS = -4, STATE = -5, LEASED = -6;
    static final int NOTHING = -11, NO_PLACE = -13, BELOW_0 = -14;
    static final long NO_ELEMENT = Long.MIN_VALUE;

    static LookAsideCache fresh() {
        return new LookAsideCache();
    }

    /** The client misses, looks and fills. */
    static int load(LookAsideCache x, int client, int key) {
        x.get(client, key);
        x.look(client);
        return x.fill(client);
    }

    static void feed(LookAsideCache x, String text) {
        for (int i = 0; i < text.length(); i++) {
            x.feed(text.charAt(i));
        }
    }

    static int plan(LookAsideCache x, int client, String text) {
        feed(x, text);
        return x.plan(client);
    }

    static void row(LookAsideCache x, int shelf, long... longs) {
        x.row(shelf, longs.length);
        for (int i = 0; i < longs.length; i++) {
            x.put(shelf, i, longs[i]);
        }
    }

    /** Something of all that there may be, with acts that may be undone and two that may be done again. */
    static void rich(LookAsideCache x) {
        x.go(1, 0);
        x.write(0, 0, 5);
        x.write(2, 9, 99);
        x.write(5, 4, 444);
        for (int key : new int[] {0, 4, 9}) {
            load(x, 0, key);
            load(x, 4, key);
        }
        x.get(0, 4);
        x.image();
        x.write(0, 4, 40);
        x.get(0, 4);
        x.look(0);
        x.cold(3, 1);
        x.write(3, 7, 7);
        for (int n = 1; n <= 5; n++) {
            x.apply(1);
        }
        x.get(3, 9);
        plan(x, 0, "get 4;look;fill");
        plan(x, 2, "write 4 17;apply 0");
        feed(x, "look;fi");
        x.row(0, 5);
        x.save(0, 1, 4);
        x.put(0, 4, -1);
        x.row(2, 0);
        x.tick(1);
        x.set(0, 5);
        x.get(5, 5);
        x.undo();
        x.undo();
    }
}
