import java.util.ArrayList;
import java.util.List;

/**
 * All that can be asked of an object behind a run of calls. An object is good for 512 calls, so the questions are
 * put in lots, each to an object of its own that has gone through the same run.
 */
final class Whole {
    interface Run {
        void on(LookAsideCache x);
    }

    private static final int LOT = 200;
    private static final int STEPS = 31;

    private final Run run;
    private final List<String> told = new ArrayList<>();
    private LookAsideCache asked;
    private int questions;

    private Whole(Run run) {
        this.run = run;
    }

    /** The answers to all questions, and what undo(), redo(), back() and plan() would answer. */
    static List<String> behind(Run run) {
        Whole whole = new Whole(run);
        whole.tellState();
        whole.tellHistory();
        return whole.told;
    }

    static List<String> withoutHistory(Run run) {
        Whole whole = new Whole(run);
        whole.tellState();
        return whole.told;
    }

    /** What the first unlike answers are; empty if there are none. */
    static String unlike(List<String> one, List<String> other) {
        for (int i = 0; i < Math.min(one.size(), other.size()); i++) {
            if (!one.get(i).equals(other.get(i))) {
                return one.get(i) + " became " + other.get(i);
            }
        }
        return one.size() == other.size() ? "" : "more or fewer answers";
    }

    private LookAsideCache anew() {
        LookAsideCache x = new LookAsideCache();
        run.on(x);
        return x;
    }

    private LookAsideCache x() {
        if (questions % LOT == 0) {
            asked = anew();
        }
        questions++;
        return asked;
    }

    private void tell(String question, long answer) {
        told.add(question + " = " + answer);
    }

    private void tellState() {
        tellCounts();
        tellGroups();
        tellStores();
        tellThoughts();
        tellShelves();
        tellPlansAndTape();
        tellImage();
    }

    private void tellCounts() {
        for (int what = 0; what < 7; what++) {
            tell("setting " + what, x().setting(what));
        }
        for (int what = 0; what < 8; what++) {
            tell("count " + what, x().count(what));
        }
        for (int i = 0; i < 10; i++) {
            tell("led " + i, x().led(i));
            tell("hottest " + i, x().hottest(i));
        }
        for (int c = 0; c < 6; c++) {
            for (int what = 0; what < 7; what++) {
                tell("client " + c + " " + what, x().client(c, what));
            }
        }
        for (int k = 0; k < 80; k++) {
            for (int what = 0; what < 3; what++) {
                tell("due " + k + " " + what, x().due(k, what));
            }
        }
    }

    private void tellGroups() {
        for (int g = 0; g < 6; g++) {
            tell("outdated " + g, x().outdated(g));
            for (int policy = 0; policy < 4; policy++) {
                tell("least " + g + " " + policy, x().least(g, policy));
            }
            for (int k = 0; k < 10; k++) {
                tell("lag " + g + " " + k, x().lag(g, k));
                tell("own " + g + " " + k, x().own(g, k));
                for (int what = 0; what < 6; what++) {
                    tell("entry " + g + " " + k + " " + what, x().entry(g, k, what));
                    tell("beside " + g + " " + k + " " + what, x().beside(g, k, what));
                }
            }
        }
    }

    private void tellStores() {
        int writes = x().count(0);
        for (int k = 0; k < 10; k++) {
            for (int what = 0; what < 3; what++) {
                for (int r = 0; r < 3; r++) {
                    tell("store " + r + " " + k + " " + what, x().store(r, k, what));
                }
            }
            for (int n = 0; n <= writes; n++) {
                tell("within " + k + " " + n, x().within(k, n, 0) + 1000L * x().within(k, n, 1));
            }
        }
        for (int what = 0; what < 3; what++) {
            for (int r = 0; r < 3; r++) {
                tell("region " + r + " " + what, x().region(r, what));
            }
        }
    }

    private void tellThoughts() {
        for (int what = 0; what < 4; what++) {
            tell("settled " + what, x().settled(what));
            for (int k = 0; k < 10; k++) {
                tell("storm " + k + " " + what, x().storm(63, k, 0, what) + 100L * x().storm(63, k, 1, what));
            }
        }
    }

    private void tellShelves() {
        for (int s = 0; s < 4; s++) {
            for (int i = 0; i < 41; i++) {
                tell("element " + s + " " + i, x().element(s, i));
            }
            tell("put " + s, anew().put(s, -1, 0));
            for (int g = 0; g < 6; g++) {
                tell("foreseen " + s + " " + g, x().foreseen(s, g));
                tell("best " + s + " " + g, x().best(s, g));
            }
        }
    }

    private void tellPlansAndTape() {
        for (int c = 0; c < 6; c++) {
            for (int what = 0; what < 5; what++) {
                tell("orders " + c + " " + what, x().orders(1 << c, 4, what));
            }
        }
        LookAsideCache x = anew();
        tell("plan", x.plan(0));
        tell("feed", x.feed(0));
        tell("its orders", x.orders(1, 4, 2));
    }

    private void tellImage() {
        LookAsideCache x = anew();
        tell("back", x.back());
        for (int what = 0; what < 9; what++) {
            tell("count behind back " + what, x.count(what));
        }
        tell("due behind back", x.due(0, 2));
    }

    private void tellHistory() {
        LookAsideCache back = anew();
        LookAsideCache on = anew();
        tell("undone may be", back.count(8));
        for (int i = 0; i < STEPS; i++) {
            tell("undo " + i, back.undo());
            tell("now behind undo " + i, back.count(7) + 1000L * back.count(1));
            tell("redo " + i, on.redo());
            tell("now behind redo " + i, on.count(7) + 1000L * on.count(1));
        }
    }
}
