import java.util.List;

/** Every refused call, too small and too large by each argument, and in the order that its words name: nothing changes. */
public final class RefusalsTest extends Steps {
    private static final int LOW = Integer.MIN_VALUE, HIGH = Integer.MAX_VALUE;

    private interface Call {
        long on(LookAsideCache x);
    }

    private interface CallWith {
        long on(LookAsideCache x, int number);
    }

    private final Due due = new Due();
    private Whole.Run state;
    private List<String> before;

    public static void main(String[] args) {
        RefusalsTest t = new RefusalsTest();
        t.from("a rich object", Steps::rich);
        t.isRich();
        t.badActs();
        t.badQuestions();
        t.badThoughts();
        t.badPlans();
        t.badShelves();
        t.otherRefusals();
        t.from("a new object", x -> { });
        t.ofANewObject();
        t.from("a full object", RefusalsTest::full);
        t.ofAFullObject();
        t.from("plans of nine acts", RefusalsTest::longPlans);
        t.ofLongPlans();
        t.due.end();
    }

    // ---- the objects that refuse

    private static void full(LookAsideCache x) {
        for (int n = 1; n <= 60; n++) {
            x.write(n % 6, n % 9, n);
        }
        load(x, 0, 3);
        for (int n = 1; n <= 160; n++) {
            x.feed('a');
        }
    }

    private static void longPlans(LookAsideCache x) {
        plan(x, 0, "get 4;look;fill;look;look");
        plan(x, 1, "get 4;look;fill;look");
    }

    // ---- what is asked of each

    private void from(String name, Whole.Run run) {
        due.about(name);
        state = run;
        before = Whole.behind(run);
    }

    private void refused(String call, long answer, Call made) {
        LookAsideCache x = new LookAsideCache();
        state.on(x);
        due.is(call, made.on(x), answer);
        due.alike(call + " changes something", before, Whole.behind(y -> {
            state.on(y);
            made.on(y);
        }));
    }

    /** BAD for the numbers next below and above those that may be, and for the ends of all ints. */
    private void bad(String call, int least, int most, CallWith made) {
        for (int number : new int[] {least - 1, most + 1, LOW, HIGH}) {
            refused(call + " with " + number, BAD, x -> made.on(x, number));
        }
    }

    // ---- the tests

    private void isRich() {
        LookAsideCache x = new LookAsideCache();
        rich(x);
        int[] counts = {5, 5, 2, 1, 2, 7, 2, 1, 28};
        for (int what = 0; what < 9; what++) {
            due.is("count " + what, x.count(what), counts[what]);
        }
        due.is("an old copy", x.beside(0, 4, 0), 444);
        due.is("a hold-off", x.beside(3, 7, 5), 2);
    }

    private void badActs() {
        bad("get, client", 0, 5, (x, n) -> x.get(n, 0));
        bad("get, key", 0, 9, (x, n) -> x.get(0, n));
        bad("look", 0, 5, (x, n) -> x.look(n));
        bad("fill", 0, 5, (x, n) -> x.fill(n));
        bad("write, client", 0, 5, (x, n) -> x.write(n, 0, 0));
        bad("write, key", 0, 9, (x, n) -> x.write(0, n, 0));
        bad("write, v", 0, 999, (x, n) -> x.write(0, 0, n));
        bad("apply", 0, 2, (x, n) -> x.apply(n));
        bad("tick", 1, 50, (x, n) -> x.tick(n));
        bad("cold, group", 0, 5, (x, n) -> x.cold(n, 1));
        bad("cold, v", 0, 1, (x, n) -> x.cold(0, n));
        bad("go, client", 0, 5, (x, n) -> x.go(n, 0));
        bad("go, group", 0, 5, (x, n) -> x.go(0, n));
        bad("set, what", 0, 6, (x, n) -> x.set(n, 1));
        bad("ROOM", 1, 8, (x, n) -> x.set(0, n));
        bad("LIFE", 1, 99, (x, n) -> x.set(1, n));
        bad("KEEP", 0, 20, (x, n) -> x.set(2, n));
        bad("TERM", 1, 20, (x, n) -> x.set(3, n));
        bad("HOLD", 0, 20, (x, n) -> x.set(4, n));
        bad("POLICY", 0, 3, (x, n) -> x.set(5, n));
        bad("LEASES", 0, 1, (x, n) -> x.set(6, n));
    }

    private void badQuestions() {
        bad("setting", 0, 6, (x, n) -> x.setting(n));
        bad("entry, group", 0, 5, (x, n) -> x.entry(n, 0, 0));
        bad("entry, key", 0, 9, (x, n) -> x.entry(0, n, 0));
        bad("entry, what", 0, 5, (x, n) -> x.entry(0, 0, n));
        bad("entry that isn't there, what", 0, 5, (x, n) -> x.entry(5, 0, n));
        bad("beside, group", 0, 5, (x, n) -> x.beside(n, 0, 0));
        bad("beside, key", 0, 9, (x, n) -> x.beside(0, n, 0));
        bad("beside, what", 0, 5, (x, n) -> x.beside(0, 0, n));
        bad("client, client", 0, 5, (x, n) -> x.client(n, 0));
        bad("client, what", 0, 6, (x, n) -> x.client(0, n));
        bad("client without hand, what", 0, 6, (x, n) -> x.client(1, n));
        bad("store, region", 0, 2, (x, n) -> x.store(n, 0, 0));
        bad("store, key", 0, 9, (x, n) -> x.store(0, n, 0));
        bad("store, what", 0, 2, (x, n) -> x.store(0, 0, n));
        bad("region, region", 0, 2, (x, n) -> x.region(n, 0));
        bad("region, what", 0, 2, (x, n) -> x.region(0, n));
        bad("within, key", 0, 9, (x, n) -> x.within(n, 0, 0));
        bad("within, n", 0, 5, (x, n) -> x.within(0, n, 0));
        bad("within, what", 0, 1, (x, n) -> x.within(0, 0, n));
        bad("least, group", 0, 5, (x, n) -> x.least(n, 0));
        bad("least, policy", 0, 3, (x, n) -> x.least(0, n));
        bad("least of none, policy", 0, 3, (x, n) -> x.least(5, n));
        bad("outdated", 0, 5, (x, n) -> x.outdated(n));
        bad("lag, group", 0, 5, (x, n) -> x.lag(n, 0));
        bad("lag, key", 0, 9, (x, n) -> x.lag(0, n));
        bad("own, client", 0, 5, (x, n) -> x.own(n, 0));
        bad("own, key", 0, 9, (x, n) -> x.own(0, n));
        bad("due, what", 0, 2, (x, n) -> x.due(0, n));
        bad("due that isn't there, what", 0, 2, (x, n) -> x.due(200, n));
        bad("hottest", 0, 9, (x, n) -> x.hottest(n));
        bad("led", 0, 9, (x, n) -> x.led(n));
        bad("count", 0, 8, (x, n) -> x.count(n));
        refused("due, k", BAD, x -> x.due(-1, 0));
        refused("due, k", BAD, x -> x.due(LOW, 0));
    }

    private void badThoughts() {
        bad("storm, clients", 1, 63, (x, n) -> x.storm(n, 0, 0, 0));
        bad("storm, key", 0, 9, (x, n) -> x.storm(1, n, 0, 0));
        bad("storm, takes", 0, 1, (x, n) -> x.storm(1, 0, n, 0));
        bad("storm, what", 0, 3, (x, n) -> x.storm(1, 0, 0, n));
        bad("settled", 0, 3, (x, n) -> x.settled(n));
        bad("tried, shelf", 0, 3, (x, n) -> x.tried(n, 0, 0));
        bad("tried, group", 0, 5, (x, n) -> x.tried(0, n, 0));
        bad("tried, policy", 0, 3, (x, n) -> x.tried(0, 0, n));
        bad("tried by nothing, group", 0, 5, (x, n) -> x.tried(1, n, 0));
        bad("tried by nothing, policy", 0, 3, (x, n) -> x.tried(1, 0, n));
        bad("best, shelf", 0, 3, (x, n) -> x.best(n, 0));
        bad("best, group", 0, 5, (x, n) -> x.best(0, n));
        bad("best by nothing, group", 0, 5, (x, n) -> x.best(1, n));
        bad("foreseen, shelf", 0, 3, (x, n) -> x.foreseen(n, 0));
        bad("foreseen, group", 0, 5, (x, n) -> x.foreseen(0, n));
        bad("foreseen by nothing, group", 0, 5, (x, n) -> x.foreseen(1, n));
    }

    private void badPlans() {
        bad("feed", 0, 255, (x, n) -> x.feed(n));
        bad("plan", 0, 5, (x, n) -> x.plan(n));
        bad("orders, clients", 1, 63, (x, n) -> x.orders(n, 0, 0));
        bad("witness, clients", 1, 63, (x, n) -> x.witness(n, 0));
        for (int what = 0; what < 5; what++) {
            int asked = what;
            bad("orders, key, by what " + what, 0, 9, (x, n) -> x.orders(5, n, asked));
        }
        bad("orders, what", 0, 4, (x, n) -> x.orders(5, 0, n));
        for (int clients : new int[] {2, 7, 8, 13, 37, 63, 64 + 1}) {
            refused("orders of " + clients, BAD, x -> x.orders(clients, 0, 0));
            refused("witness of " + clients, BAD, x -> x.witness(clients, 0));
        }
        refused("witness, k", BAD, x -> x.witness(5, -1));
        refused("witness, k", BAD, x -> x.witness(5, LOW));
    }

    private void badShelves() {
        bad("row, shelf", 0, 3, (x, n) -> x.row(n, 1));
        bad("row of less than none, shelf", 0, 3, (x, n) -> x.row(n, -1));
        refused("row, n", BAD, x -> x.row(0, 41));
        refused("row, n", BAD, x -> x.row(0, HIGH));
        bad("put, shelf", 0, 3, (x, n) -> x.put(n, 0, 0));
        bad("put, shelf and place", 0, 3, (x, n) -> x.put(n, -1, 0));
        bad("save, shelf", 0, 3, (x, n) -> x.save(n, 0, 0));
        bad("save, group", 0, 5, (x, n) -> x.save(0, 0, n));
        bad("save to nothing, group", 0, 5, (x, n) -> x.save(1, 0, n));
        bad("save to no place, group", 0, 5, (x, n) -> x.save(0, -1, n));
        bad("restore, shelf", 0, 3, (x, n) -> x.restore(n, 0, 1, 0));
        bad("restore, n", 0, 10, (x, n) -> x.restore(0, 0, n, 0));
        bad("restore of nothing, n", 0, 10, (x, n) -> x.restore(1, 0, n, 0));
        bad("restore, group", 0, 5, (x, n) -> x.restore(0, 0, 1, n));
        bad("restore of nothing, group", 0, 5, (x, n) -> x.restore(1, 0, 1, n));
        bad("restore from no place, group", 0, 5, (x, n) -> x.restore(0, 9, 1, n));
        for (int n : new int[] {-1, 4, LOW, HIGH}) {
            refused("element, shelf", NO_ELEMENT, x -> x.element(n, 0));
        }
    }

    private void otherRefusals() {
        refused("look without hand", STATE, x -> x.look(1));
        refused("fill without hand", STATE, x -> x.fill(1));
        refused("fill without look", STATE, x -> x.fill(3));
        refused("apply of no more", NOT, x -> x.apply(1));
        refused("entry", NOT, x -> x.entry(5, 0, 0));
        refused("lag", NOT, x -> x.lag(5, 0));
        refused("own", NOT, x -> x.own(5, 0));
        refused("least", NOT, x -> x.least(5, 0));
        refused("due", NOT, x -> x.due(HIGH, 0));
        refused("client without hand", NOT, x -> x.client(1, 1));
        refused("client that hasn't looked", NOT, x -> x.client(3, 4));
        for (int what = 0; what < 6; what++) {
            int asked = what;
            refused("beside", NOT, x -> x.beside(5, 8, asked));
        }
        refused("row", BELOW_0, x -> x.row(0, -1));
        refused("row", BELOW_0, x -> x.row(1, LOW));
        refused("put", NOTHING, x -> x.put(1, 0, 0));
        refused("put at no place", NOTHING, x -> x.put(1, -1, 0));
        refused("element", NO_ELEMENT, x -> x.element(1, 0));
        refused("save", NOTHING, x -> x.save(1, 0, 0));
        refused("save at no place", NOTHING, x -> x.save(1, -1, 0));
        refused("restore", NOTHING, x -> x.restore(1, 0, 0, 0));
        refused("restore from no place", NOTHING, x -> x.restore(1, -1, 10, 0));
        refused("tried", NOTHING, x -> x.tried(1, 0, 0));
        refused("best", NOTHING, x -> x.best(1, 0));
        refused("foreseen", NOTHING, x -> x.foreseen(1, 0));
        for (int i : new int[] {-1, 5, LOW, HIGH}) {
            refused("put at " + i, NO_PLACE, x -> x.put(0, i, 0));
            refused("element at " + i, NO_ELEMENT, x -> x.element(0, i));
        }
        refused("put in a row of 0", NO_PLACE, x -> x.put(2, 0, 0));
        refused("element of a row of 0", NO_ELEMENT, x -> x.element(2, 0));
        for (int i : new int[] {-1, 3, 4, 5, 6, LOW, HIGH}) {
            refused("save of three at " + i, NO_PLACE, x -> x.save(0, i, 4));
        }
        for (int i : new int[] {-1, 6, LOW, HIGH}) {
            refused("save of none at " + i, NO_PLACE, x -> x.save(0, i, 5));
            refused("restore of none from " + i, NO_PLACE, x -> x.restore(0, i, 0, 5));
        }
        refused("save of none behind a row of 0", NO_PLACE, x -> x.save(2, 1, 5));
        for (int i : new int[] {-1, 4, 5, LOW, HIGH}) {
            refused("restore of two from " + i, NO_PLACE, x -> x.restore(0, i, 2, 4));
        }
        refused("restore of more than the row", NO_PLACE, x -> x.restore(0, 0, 6, 4));
    }

    private void ofANewObject() {
        for (int r = 0; r < 3; r++) {
            int region = r;
            refused("apply", NOT, x -> x.apply(region));
        }
        refused("next", NOT, x -> x.next());
        refused("undo", STATE, x -> x.undo());
        refused("redo", STATE, x -> x.redo());
        refused("back", STATE, x -> x.back());
        refused("due", NOT, x -> x.due(0, 0));
        refused("due of no what", BAD, x -> x.due(0, 3));
        refused("orders without plans", BAD, x -> x.orders(1, 0, 0));
        refused("witness without plans", BAD, x -> x.witness(1, 0));
        for (int s = 0; s < 4; s++) {
            int shelf = s;
            refused("no row", NOTHING, x -> x.put(shelf, 0, 0));
            refused("no row", NO_ELEMENT, x -> x.element(shelf, 0));
        }
        refused("an empty tape", -100, x -> x.plan(0));
    }

    private void ofAFullObject() {
        refused("write", FULL, x -> x.write(0, 3, 5));
        refused("write abroad", FULL, x -> x.write(5, 3, 5));
        refused("write of no value", BAD, x -> x.write(0, 3, 1000));
        refused("feed", FULL, x -> x.feed('a'));
        refused("feed of no byte", BAD, x -> x.feed(256));
        refused("within", BAD, x -> x.within(0, 61, 0));
        refused("plan of no client", BAD, x -> x.plan(6));
    }

    private void ofLongPlans() {
        for (int what = 0; what < 5; what++) {
            int asked = what;
            refused("orders", STATE, x -> x.orders(3, 0, asked));
        }
        refused("orders, key", BAD, x -> x.orders(3, 10, 0));
        refused("orders, what", BAD, x -> x.orders(3, 0, 5));
        refused("orders, one without a plan", BAD, x -> x.orders(7, 0, 0));
        refused("witness", STATE, x -> x.witness(3, 0));
        refused("witness, past the end", STATE, x -> x.witness(3, 9));
        refused("witness, one without a plan", BAD, x -> x.witness(7, 0));
    }
}
