import java.util.ArrayList;
import java.util.List;

/** HISTORY and AN IMAGE: all that they keep, what counts as an act, the edges at 0 and at 30. */
public final class HistoryTest extends Steps {
    private record Act(String name, Whole.Run run) { }

    private final Due due = new Due();
    private final List<Act> acts = new ArrayList<>();
    private final List<Act> others = new ArrayList<>();

    public static void main(String[] args) {
        HistoryTest t = new HistoryTest();
        t.listActs();
        t.listOthers();
        t.undoneAndDoneAgain();
        t.eachActCountsOnce();
        t.othersDontCount();
        t.othersChangeNothing();
        t.thirtyOfAllKinds();
        t.untilAnotherCall();
        t.undoneInParts();
        t.whatUndoLeaves();
        t.restoredLongs();
        t.imageKeeps();
        t.imageLeaves();
        t.imageOfANewObject();
        t.imagesAreApart();
        t.backEndsHistory();
        t.due.end();
    }

    // ---- what may be called from a rich object on

    private void act(String name, Whole.Run run) {
        acts.add(new Act(name, run));
    }

    /** Each of them is not refused there; some change nothing. */
    private void listActs() {
        act("get, a hit", x -> x.get(0, 0));
        act("get, leased", x -> x.get(2, 2));
        act("get by its own lease", x -> x.get(0, 4));
        act("get, an old copy", x -> x.get(1, 4));
        act("get, a hit abroad", x -> x.get(4, 9));
        act("look at a store", x -> x.look(0));
        act("look at a store abroad", x -> x.look(3));
        act("fill", x -> x.fill(0));
        act("write at home", x -> x.write(1, 9, 0));
        act("write abroad", x -> x.write(4, 9, 999));
        act("write in a cold group", x -> x.write(3, 9, 1));
        act("apply at home", x -> x.apply(0));
        act("apply abroad", x -> x.apply(2));
        act("tick", x -> x.tick(1));
        act("tick, all is gone", x -> x.tick(50));
        act("cold", x -> x.cold(0, 1));
        act("warm", x -> x.cold(3, 0));
        act("cold again", x -> x.cold(3, 1));
        act("warm again", x -> x.cold(0, 0));
        act("go", x -> x.go(0, 3));
        act("go to its own", x -> x.go(0, 0));
        for (int what = 0; what < 7; what++) {
            int setting = what;
            act("set " + what, x -> x.set(setting, setting == 6 ? 0 : 1));
        }
        act("set to the same", x -> x.set(1, 50));
        act("next", x -> x.next());
        act("restore of three", x -> x.restore(0, 1, 3, 2));
        act("restore of none", x -> x.restore(0, 0, 0, 2));
        act("restore of one that is none", x -> x.restore(0, 4, 1, 1));
    }

    private void other(String name, Whole.Run run) {
        others.add(new Act(name, run));
    }

    private void listOthers() {
        other("setting", x -> x.setting(0));
        other("entry", x -> x.entry(0, 0, 0));
        other("beside", x -> x.beside(0, 4, 0));
        other("client", x -> x.client(0, 1));
        other("store", x -> x.store(0, 4, 0));
        other("region", x -> x.region(1, 2));
        other("within", x -> x.within(4, 3, 0));
        other("least", x -> x.least(0, 0));
        other("outdated", x -> x.outdated(0));
        other("lag", x -> x.lag(0, 0));
        other("own", x -> x.own(0, 0));
        other("due", x -> x.due(0, 0));
        other("hottest", x -> x.hottest(0));
        other("led", x -> x.led(0));
        for (int what = 0; what < 4; what++) {
            int asked = what;
            other("storm", x -> x.storm(63, 4, 0, asked));
            other("storm, old ones taken", x -> x.storm(3, 4, 1, asked));
            other("settled", x -> x.settled(asked));
            other("tried", x -> x.tried(0, 0, asked));
        }
        other("best", x -> x.best(0, 0));
        other("foreseen", x -> x.foreseen(0, 0));
        for (int what = 0; what < 5; what++) {
            int asked = what;
            other("orders", x -> x.orders(5, 4, asked));
        }
        other("witness", x -> x.witness(5, 0));
        other("element", x -> x.element(0, 1));
        other("count", x -> x.count(0));
    }

    private static Whole.Run after(Whole.Run... runs) {
        return x -> {
            for (Whole.Run run : runs) {
                run.on(x);
            }
        };
    }

    // ---- HISTORY

    private void undoneAndDoneAgain() {
        due.about("as if those undone had never come");
        List<String> before = Whole.withoutHistory(Steps::rich);
        for (Act a : acts) {
            Whole.Run undone = after(Steps::rich, a.run, x -> x.undo());
            due.alike(a.name + ", undone", before, Whole.withoutHistory(undone));
            Whole.Run again = after(undone, x -> x.redo());
            due.alike(a.name + ", done again", Whole.behind(after(Steps::rich, a.run)), Whole.behind(again));
            due.alike(a.name + ", undone again", Whole.behind(undone), Whole.behind(after(again, x -> x.undo())));
        }
    }

    private void eachActCountsOnce() {
        due.about("HISTORY: calls that are not refused");
        for (Act a : acts) {
            LookAsideCache x = fresh();
            rich(x);
            due.is(a.name + ": may be done again ahead", x.redo(), 1);
            x.undo();
            int before = x.count(8);
            a.run.on(x);
            due.is(a.name + ": one more", x.count(8), before + 1);
            due.is(a.name + ": none to do again", x.redo(), STATE);
            due.is(a.name + ": undone", x.undo(), before);
            due.is(a.name + ": done again", x.redo(), 0);
        }
    }

    private void othersDontCount() {
        due.about("HISTORY: calls under acts and restore() alone");
        List<Act> all = new ArrayList<>(others);
        all.add(new Act("feed", x -> x.feed('a')));
        all.add(new Act("plan", x -> plan(x, 5, "look")));
        all.add(new Act("plan of a fault", x -> x.plan(0)));
        all.add(new Act("row", x -> x.row(3, 40)));
        all.add(new Act("put", x -> x.put(0, 0, 5)));
        all.add(new Act("save", x -> x.save(0, 0, 4)));
        all.add(new Act("image", x -> x.image()));
        for (Act a : all) {
            LookAsideCache x = fresh();
            rich(x);
            a.run.on(x);
            due.is(a.name + ": as many", x.count(8), 28);
            due.is(a.name + ": may still be done again", x.redo() * 10 + x.redo(), 10);
            due.is(a.name + ": all undone", x.undo() + x.undo(), 29 + 28);
        }
    }

    private void othersChangeNothing() {
        due.about("questions change nothing");
        List<String> before = Whole.behind(Steps::rich);
        for (Act a : others) {
            due.alike(a.name, before, Whole.behind(after(Steps::rich, a.run)));
        }
    }

    private void thirtyOfAllKinds() {
        due.about("The latest 30 can be UNDONE");
        List<String> before = Whole.withoutHistory(Steps::rich);
        for (Act a : acts) {
            Whole.Run set29 = x -> {
                for (int n = 1; n <= 29; n++) {
                    x.set(1, 20 + n);
                }
            };
            LookAsideCache x = fresh();
            after(Steps::rich, set29, a.run).on(x);
            due.is(a.name + ": 30 at most", x.count(8), 30);
            undoThirty(x);
            due.is(a.name + ": no more", x.undo(), STATE);
            Whole.Run undone = after(Steps::rich, set29, a.run, HistoryTest::undoThirty);
            due.alike(a.name + ": as 30 acts ago", before, Whole.withoutHistory(undone));
        }
        List<String> first = Whole.withoutHistory(after(Steps::rich, x -> x.write(5, 5, 5)));
        List<String> last = Whole.behind(after(Steps::rich, x -> x.write(5, 5, 5), HistoryTest::thirty));
        Whole.Run undone = after(Steps::rich, x -> x.write(5, 5, 5), HistoryTest::thirty, HistoryTest::undoThirty);
        due.alike("all but the first undone", first, Whole.withoutHistory(undone));
        due.alike("all done again", last, Whole.behind(after(undone, x -> {
            while (x.redo() != STATE) {
                x.count(0);
            }
        })));
    }

    private static void thirty(LookAsideCache x) {
        for (int n = 0; n < 5; n++) {
            x.get(n, n);
            x.set(2, n);
            x.tick(1);
            x.write(n, 9, n);
            x.apply(0);
            x.go(5, n);
        }
    }

    private static void undoThirty(LookAsideCache x) {
        for (int n = 0; n < 35; n++) {
            x.undo();
        }
    }

    private void untilAnotherCall() {
        due.about("and DONE AGAIN (till another such call comes)");
        LookAsideCache x = fresh();
        for (int n = 0; n < 5; n++) {
            x.tick(10);
        }
        x.undo();
        x.undo();
        x.undo();
        due.is("one again", x.redo(), 2);
        x.tick(1);
        due.is("no more", x.redo(), STATE);
        due.is("now", x.count(7), 31);
        due.is("four", x.count(8), 4);
        x.undo();
        due.is("the other call again", x.redo(), 0);
        due.is("now", x.count(7), 31);
        for (int n = 3; n >= 0; n--) {
            due.is("undo", x.undo(), n);
        }
        due.is("no more", x.undo(), STATE);
        due.is("now", x.count(7), 0);
        due.is("undo is no act: four", x.redo(), 3);
    }

    private void undoneInParts() {
        due.about("the latest first");
        LookAsideCache x = fresh();
        int[] now = new int[41];
        for (int n = 1; n <= 40; n++) {
            now[n] = x.tick(n);
        }
        for (int round = 1; round <= 5; round++) {
            for (int n = 1; n <= 6 * round; n++) {
                due.is("undo", x.undo(), 30 - n);
                due.is("now", x.count(7), now[40 - n]);
                due.is("may be undone", x.count(8), 30 - n);
            }
            for (int n = 6 * round - 1; n >= 0; n--) {
                due.is("redo", x.redo(), n);
                due.is("now", x.count(7), now[40 - n]);
            }
        }
        due.is("no more", x.redo(), STATE);
    }

    private void whatUndoLeaves() {
        due.about("PLANS, THE TAPE, SHELVES and AN IMAGE are not undone");
        LookAsideCache x = fresh();
        x.tick(1);
        x.image();
        plan(x, 0, "look");
        x.feed('l');
        row(x, 0, 7);
        x.tick(1);
        x.undo();
        x.undo();
        due.is("plan", x.count(6), 1);
        due.is("tape", x.count(5), 1);
        due.is("row", x.element(0, 0), 7);
        due.is("image", x.back(), 1);
    }

    private void restoredLongs() {
        due.about("restore(): by the longs that were in the ROW then");
        LookAsideCache x = fresh();
        x.write(0, 1, 11);
        x.write(0, 1, 12);
        row(x, 0, 1001011, 9000);
        x.restore(0, 0, 2, 5);
        x.put(0, 0, 2001012);
        x.undo();
        due.is("gone", x.entry(5, 1, 0), NOT);
        x.row(0, 1);
        due.is("again", x.redo(), 0);
        due.is("as it was", x.entry(5, 1, 0), 11);
        due.is("both", x.entry(5, 9, 0), 0);
        due.is("led", x.led(4), 2);
    }

    // ---- AN IMAGE

    private static final Whole.Run BACK = x -> x.back();

    private void imageKeeps() {
        due.about("back: all that it keeps is as it was then");
        Whole.Run kept = after(Steps::rich, x -> x.image());
        List<String> then = Whole.withoutHistory(kept);
        for (Act a : acts) {
            due.alike(a.name, then, Whole.withoutHistory(after(kept, a.run, BACK)));
        }
        due.alike("many acts", then, Whole.withoutHistory(after(kept, HistoryTest::thirty, x -> x.go(2, 5), BACK)));
        due.alike("undone past it", then, Whole.withoutHistory(after(kept, HistoryTest::undoThirty, BACK)));
        due.alike("done again past it", then, Whole.withoutHistory(after(kept, x -> x.redo(), BACK)));
        due.alike("twice", then, Whole.withoutHistory(after(kept, BACK, x -> x.tick(9), BACK)));
    }

    private void imageLeaves() {
        due.about("AN IMAGE keeps all but PLANS, THE TAPE, SHELVES");
        LookAsideCache x = fresh();
        plan(x, 0, "look");
        x.feed('l');
        row(x, 0, 7);
        x.image();
        due.is("plan", plan(x, 0, "ook;fill"), 2);
        plan(x, 1, "look");
        x.feed('a');
        x.feed('b');
        x.feed('c');
        x.put(0, 0, 8);
        x.row(1, 2);
        due.is("back", x.back(), 0);
        due.is("plans", x.count(6), 2);
        due.is("tape", x.count(5), 3);
        due.is("shelf", x.element(0, 0), 8);
        due.is("another", x.element(1, 1), 0);
    }

    private void imageOfANewObject() {
        due.about("image of a new object");
        List<String> then = Whole.behind(x -> x.image());
        Whole.Run changed = after(x -> x.image(), HistoryTest::thirty, x -> x.set(6, 0), BACK);
        due.alike("all ends", then, Whole.behind(changed));
        LookAsideCache x = fresh();
        due.is("no image", x.back(), STATE);
        x.tick(5);
        due.is("still none", x.back(), STATE);
        due.is("not ended by it", x.count(8), 1);
        due.is("an image", x.image(), 5);
        x.tick(5);
        due.is("back", x.back(), 5);
    }

    private void imagesAreApart() {
        due.about("AN IMAGE is kept: one, the latest");
        LookAsideCache x = fresh();
        x.image();
        x.write(0, 1, 11);
        x.tick(1);
        x.image();
        x.write(0, 1, 12);
        x.tick(1);
        due.is("the later one", x.back(), 1);
        due.is("its writes", x.count(0), 1);
        x.write(0, 1, 13);
        due.is("it stays", x.back(), 1);
        due.is("its writes", x.count(0), 1);
        x.write(0, 1, 14);
        x.undo();
        due.is("kept behind an undo", x.image(), 1);
        x.redo();
        due.is("back", x.back(), 1);
        due.is("its writes", x.count(0), 1);
    }

    private void backEndsHistory() {
        due.about("back: HISTORY is empty");
        LookAsideCache x = fresh();
        x.tick(1);
        x.tick(1);
        x.image();
        x.tick(1);
        x.undo();
        due.is("back", x.back(), 2);
        due.is("none to undo", x.undo(), STATE);
        due.is("none to do again", x.redo(), STATE);
        due.is("none", x.count(8), 0);
        for (int n = 1; n <= 31; n++) {
            x.tick(1);
            due.is("as many", x.count(8), Math.min(n, 30));
        }
        for (int n = 29; n >= 0; n--) {
            due.is("undo", x.undo(), n);
        }
        due.is("the first", x.count(7), 3);
        due.is("no more", x.undo(), STATE);
    }
}
