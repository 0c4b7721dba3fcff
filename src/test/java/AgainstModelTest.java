import java.lang.reflect.InvocationTargetException;
import java.lang.reflect.Method;
import java.util.ArrayList;
import java.util.HashMap;
import java.util.List;
import java.util.Map;
import java.util.Random;

/** Long runs of calls, made up by fixed seeds, must answer as the model in support/Model.java does. */
public final class AgainstModelTest {
    private static final int RUNS = 1500;
    private static final int CALLS = 512;
    private static final int[] ODD = {-1, -2, Integer.MIN_VALUE, Integer.MAX_VALUE, 64, 1000, 6, 10};

    // Each sign is an argument: c client, k key, v value, g group, r region, l letter, s shelf, b bits, p policy,
    // i place, z size, t ticks, n number to 12, o 0 or 1, x long; a figure f is a "what" of 0 .. f.
    private static final String[] ACTS = {
        "get ck", "get ck", "get ck", "get ck", "look c", "look c", "look c", "fill c", "fill c", "fill c",
        "write ckv", "write ckv", "write ckv", "write ckv", "write ckv", "apply r", "apply r", "apply r", "apply r",
        "tick t", "tick t", "cold go", "cold go", "go cg", "go cg", "go cg", "set 6n", "set 6n", "next", "restore sizg"};
    private static final String[] ASKS = {
        "setting 6", "entry gk5", "entry gk5", "beside gk5", "beside gk5", "client c6", "client c6", "store rk2",
        "region r2", "within kn1", "least gp", "outdated g", "lag gk", "own ck", "due n2", "due n2", "hottest k",
        "led 9", "led 9", "storm bko3", "storm bko3", "settled 3", "tried sgp", "best sg", "foreseen sg",
        "put six", "element si", "save sig", "save sig", "count 8", "count 8"};
    private static final String[] RARE = {
        "row sz", "image", "image", "back", "feed l", "redo", "undo", "set 6n", "restore sizg"};
    private static final String[] WORDS = {
        "get 0", "get 1", "get 2", "look", "fill", "get 0", "look", "fill", "write 0 7", "write 1 8", "write 2 907",
        "apply 0", "apply 1", "apply 2", "tick 1", "tick 7", "tick 050", "cold 0", "cold 3", "warm 0", "warm 5"};
    private static final String[] WELL_MADE = {
        "get 0;look;fill", "get 0;look;fill", "write 0 5;apply 0", "write 0 6", "apply 0;get 0", "look;fill;get 1",
        "write 0 5;get 0;look;fill", "cold 0;get 0", "get 1;look;tick 2;fill;get 0", "fill;look", "tick 6;write 1 1",
        "apply 1;apply 0;apply 2", "warm 0;write 0 5;get 0;look;fill", "get 0", "apply 0;apply 0"};
    private static final String[] SLIPS = {
        "", ";", " ", "x", "get", "get ", "get 10", "write 3", "write 3 ", "write 3 1000", "tick 0", "tick 51", "apply 3",
        "cold 6", "looks", "Look", "fill ", "get 00", "get 0001", "gwarm 1", "write 12 4", "tick 0007", "\u00e9"};

    private final Map<String, Method> real = methodsOf(LookAsideCache.class);
    private final Map<String, Method> due = methodsOf(Model.class);
    private final Random random;
    private final LookAsideCache cache = new LookAsideCache();
    private final Model model = new Model();
    private final StringBuilder told = new StringBuilder();
    private final boolean ordering;
    private final boolean writing;
    private int calls;
    private boolean wrong;

    private AgainstModelTest(long seed) {
        random = new Random(seed);
        ordering = seed % 3 == 0;
        writing = seed % 10 == 1;
    }

    private static Map<String, Method> methodsOf(Class<?> type) {
        Map<String, Method> all = new HashMap<>();
        for (Method m : type.getDeclaredMethods()) {
            if (!java.lang.reflect.Modifier.isPrivate(m.getModifiers())) {
                all.put(m.getName(), m);
            }
        }
        return all;
    }

    public static void main(String[] args) {
        int failures = 0;
        for (int seed = 0; seed < RUNS && failures < 3; seed++) {
            AgainstModelTest test = new AgainstModelTest(seed);
            test.run();
            if (test.wrong) {
                failures++;
                System.out.println("seed " + seed + ":\n" + test.told);
            }
        }
        System.out.println(failures == 0 ? "all answers are as the model's" : failures + " runs are not as the model's");
        if (failures != 0) {
            System.exit(1);
        }
    }

    private void run() {
        int asks = random.nextInt(4);
        if (random.nextInt(4) == 0) {
            same("set", 6, 0);
        }
        for (int c = 0; ordering && c < 3; c++) {
            feedText(WELL_MADE[random.nextInt(WELL_MADE.length)], c);
        }
        while (calls < CALLS && !wrong) {
            int kind = random.nextInt(400);
            if (ordering && kind < 6) {
                feedPlan();
            } else if (ordering && kind < 20) {
                call(random.nextBoolean() ? "orders bk4" : "witness bn");
            } else if (kind < 22) {
                fillRow();
            } else if (kind < 28) {
                call(RARE[random.nextInt(RARE.length)]);
            } else if (kind < 31) {
                undoAndRedo();
            } else if (kind < 34) {
                saveAndRestore();
            } else if (writing && kind < 120) {
                call("write ckv");
            } else if (random.nextInt(asks + 1) > 0) {
                call(ASKS[random.nextInt(ASKS.length)]);
            } else if (kind < 170) {
                readThrough();
            } else {
                call(ACTS[random.nextInt(ACTS.length)]);
            }
        }
    }

    private void readThrough() {
        int client = anInt('c');
        int key = anInt('k');
        same("get", client, key);
        if (random.nextInt(5) == 0) {
            call(ACTS[random.nextInt(ACTS.length)]);
        }
        same("look", client);
        if (random.nextInt(3) == 0) {
            call(ACTS[random.nextInt(ACTS.length)]);
        }
        same("fill", client);
    }

    private void undoAndRedo() {
        int back = random.nextInt(random.nextInt(3) == 0 ? 33 : 4);
        for (int i = 0; i <= back; i++) {
            same("undo");
        }
        int on = random.nextInt(back + 2);
        for (int i = 0; i < on; i++) {
            same("redo");
        }
    }

    private void saveAndRestore() {
        int shelf = random.nextInt(4);
        same("row", shelf, random.nextInt(12));
        same("save", shelf, random.nextInt(3), anInt('g'));
        if (random.nextBoolean()) {
            call("put six");
        }
        same("restore", shelf, random.nextInt(3), random.nextInt(9), anInt('g'));
    }

    private void feedPlan() {
        same("plan", random.nextInt(6));
        StringBuilder text = new StringBuilder();
        int acts = 1 + random.nextInt(random.nextInt(6) == 0 ? 7 : 3);
        for (int i = 0; i < acts; i++) {
            String[] from = random.nextInt(12) == 0 ? SLIPS : WORDS;
            text.append(i == 0 ? "" : ";").append(from[random.nextInt(from.length)]);
        }
        feedText(text.toString(), random.nextInt(3));
    }

    private void feedText(String text, int client) {
        for (int i = 0; i < text.length(); i++) {
            same("feed", (int) text.charAt(i));
        }
        same("plan", client);
    }

    private void fillRow() {
        int shelf = random.nextInt(4);
        int size = random.nextInt(random.nextInt(4) == 0 ? 41 : 13);
        same("row", shelf, size);
        for (int i = 0; i < size; i++) {
            same("put", shelf, i, random.nextInt(40) == 0 ? 10L : (long) random.nextInt(random.nextBoolean() ? 5 : 10));
        }
    }

    private void call(String how) {
        int blank = how.indexOf(' ');
        List<Object> args = new ArrayList<>();
        for (int i = blank + 1; blank > 0 && i < how.length(); i++) {
            args.add(how.charAt(i) == 'x' ? (Object) aLong() : (Object) anInt(how.charAt(i)));
        }
        same(blank < 0 ? how : how.substring(0, blank), args.toArray());
    }

    private long aLong() {
        return switch (random.nextInt(6)) {
            case 0 -> random.nextLong();
            case 1 -> random.nextInt(10) * 1000L;
            case 2 -> random.nextInt(20);
            default -> random.nextInt(12) * 1000000L + random.nextInt(4) * 1000L + random.nextInt(3);
        };
    }

    private int anInt(char kind) {
        if (random.nextInt(60) == 0) {
            return ODD[random.nextInt(ODD.length)];
        }
        return switch (kind) {
            case 'c', 'g' -> random.nextInt(random.nextBoolean() ? 3 : 6);
            case 'k' -> random.nextInt(random.nextInt(3) > 0 ? 3 : 10);
            case 'v' -> random.nextInt(random.nextInt(4) > 0 ? 3 : 1000);
            case 'r' -> random.nextInt(3);
            case 'l' -> random.nextInt(256);
            case 's' -> random.nextInt(4);
            case 'b' -> ordering ? 1 + random.nextInt(7) : 1 + random.nextInt(63);
            case 'p' -> random.nextInt(4);
            case 'i' -> random.nextInt(random.nextBoolean() ? 3 : 41);
            case 'z' -> random.nextInt(random.nextBoolean() ? 5 : 42);
            case 't' -> 1 + random.nextInt(random.nextInt(5) > 0 ? 3 : 50);
            case 'n' -> random.nextInt(12);
            case 'o' -> random.nextInt(2);
            default -> random.nextInt(kind - '0' + 1);
        };
    }

    private void same(String name, Object... args) {
        if (wrong || calls >= CALLS) {
            return;
        }
        calls++;
        Object got = answer(real.get(name), cache, args);
        Object want = answer(due.get(name), model, args);
        told.append(name).append(List.of(args)).append(" = ").append(got).append('\n');
        if (!got.equals(want)) {
            wrong = true;
            told.append("due is ").append(want).append('\n');
        }
    }

    private static Object answer(Method method, Object on, Object[] args) {
        try {
            return method.invoke(on, args);
        } catch (InvocationTargetException e) {
            return "threw " + e.getCause();
        } catch (IllegalAccessException e) {
            return "no access: " + e;
        }
    }
}
