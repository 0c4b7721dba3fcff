/** The edges of THE TAPE, PLANS and ORDERS: promises 33 to 36, each place and each byte of a PLAN's text. */
public final class PlanEdgesTest extends Steps {
    private static final String[] WORDS = {"get", "look", "fill", "write", "apply", "tick", "cold", "warm"};

    private final Due due = new Due();

    public static void main(String[] args) {
        PlanEdgesTest t = new PlanEdgesTest();
        t.tapeOf160();
        t.tapeBehindPlan();
        t.eachWord();
        t.noWord();
        t.eachNumber();
        t.eachNumberOfAWrite();
        t.noughtsAhead();
        t.fourFigures();
        t.eachFirstByte();
        t.eachByteBehindAWord();
        t.eachByteBehindABlank();
        t.eachByteBehindAnAct();
        t.eachByteBehindASemicolon();
        t.endsTooEarly();
        t.oneToFiveActs();
        t.sixthAct();
        t.faultLeavesThePlan();
        t.planTakesThePlace();
        t.ordersOfOne();
        t.ordersHowMany();
        t.ordersWhosePlans();
        t.ordersEachAct();
        t.ordersRefusedActs();
        t.ordersColdAndWarm();
        t.ordersLoads();
        t.ordersValues();
        t.ordersOutdated();
        t.witnessOfTheFirst();
        t.witnessOfThree();
        t.due.end();
    }

    private void faultAt(String text, int place) {
        LookAsideCache x = fresh();
        due.is("'" + text + "'", plan(x, 3, text), -100 - place);
        due.is("no plan by '" + text + "'", x.count(6), 0);
        due.is("the tape is empty", x.count(5), 0);
    }

    private void acts(String text, int acts) {
        LookAsideCache x = fresh();
        due.is("'" + text + "'", plan(x, 3, text), acts);
        due.is("a plan by '" + text + "'", x.count(6), 1);
        due.is("the tape is empty", x.count(5), 0);
    }

    // ---- THE TAPE

    private void tapeOf160() {
        due.about("THE TAPE (160 bytes at most)");
        LookAsideCache x = fresh();
        for (int n = 1; n <= 160; n++) {
            due.is("byte", x.feed(n % 2 * 255), n);
        }
        due.is("full", x.feed(0), FULL);
        due.is("full", x.feed(255), FULL);
        due.is("160", x.count(5), 160);
        due.is("a fault at once", x.plan(0), -100);
        due.is("empty by it", x.count(5), 0);
        due.is("from the first again", x.feed(0), 1);
        x = fresh();
        for (int n = 0; n < 160; n++) {
            x.feed('a');
        }
        due.is("a word of 160", x.plan(0), -100);
        feed(x, "get ");
        for (int n = 4; n < 160; n++) {
            x.feed('0');
        }
        due.is("a number of 156 figures: the fourth", x.plan(0), -107);
        x = fresh();
        feed(x, "look;look;look;look;look");
        for (int n = 24; n < 160; n++) {
            x.feed(';');
        }
        due.is("160 bytes, a sixth act", x.plan(0), -125);
        due.is("no plan", x.count(6), 0);
    }

    private void tapeBehindPlan() {
        due.about("THE TAPE, which is empty then");
        LookAsideCache x = fresh();
        plan(x, 0, "write 3 777");
        String[] shorter = {"write 3 77", "write 3 ", "write 3", "write ", "write", "writ", ""};
        int[] answers = {1, -108, -107, -106, -105, -100, -100};
        for (int i = 0; i < shorter.length; i++) {
            plan(x, 1, "write 3 777;look");
            due.is("behind a longer one: '" + shorter[i] + "'", plan(x, 0, shorter[i]), answers[i]);
            due.is("empty", x.count(5), 0);
        }
        x.feed('l');
        due.is("no client", x.plan(6), BAD);
        due.is("no client", x.plan(-1), BAD);
        due.is("the tape stays", x.count(5), 1);
        due.is("its text, too", plan(x, 5, "ook"), 1);
    }

    // ---- texts

    private void eachWord() {
        due.about("ACT: get K, look, fill, write K V, apply R, tick N, cold G, warm G");
        for (String text : new String[] {"get 0", "look", "fill", "write 0 0", "apply 0", "tick 1", "cold 0", "warm 0"}) {
            acts(text, 1);
            faultAt(text.toUpperCase(), 0);
            faultAt(" " + text, 0);
            faultAt(text + " ", text.length());
            faultAt("x" + text, 0);
            acts(text + ";" + text, 2);
            faultAt(text + "," + text, text.length());
        }
    }

    private void noWord() {
        due.about("FAULT: of a WORD that is none of these (an empty one, too): where it begins");
        for (String word : WORDS) {
            for (int length = 0; length < word.length(); length++) {
                faultAt(word.substring(0, length), 0);
                faultAt(word.substring(0, length) + " 1", 0);
                faultAt("fill;" + word.substring(0, length), 5);
                faultAt("fill;" + word.substring(0, length) + " 1", 5);
            }
            faultAt(word + "s", 0);
            faultAt(word + word, 0);
            faultAt(word + "s 1", 0);
            faultAt("get 1;tick 50;" + word + "z", 14);
        }
        faultAt("", 0);
        faultAt(";", 0);
        faultAt(";look", 0);
        faultAt("look;;look", 5);
        faultAt("look; look", 5);
        faultAt("look;", 5);
        faultAt("look;look;", 10);
        faultAt("5", 0);
    }

    private void eachNumber() {
        due.about("numbers: K 0 .. 9, R 0 .. 2, N 1 .. 50, G 0 .. 5: of one that may not be: where it begins");
        String[] words = {"get", "apply", "tick", "cold", "warm"};
        int[] least = {0, 0, 1, 0, 0};
        int[] most = {9, 2, 50, 5, 5};
        for (int i = 0; i < words.length; i++) {
            int begins = words[i].length() + 1;
            for (int n = 0; n <= 999; n++) {
                if (n >= least[i] && n <= most[i]) {
                    acts(words[i] + " " + n, 1);
                } else {
                    faultAt(words[i] + " " + n, begins);
                    faultAt(words[i] + " " + n + ";look", begins);
                    faultAt("look;" + words[i] + " " + n, begins + 5);
                    faultAt(words[i] + " " + n + "?", begins);
                }
            }
            faultAt(words[i] + " -1", begins);
            faultAt(words[i] + " +1", begins);
            faultAt(words[i] + " 1 1", begins + 1);
        }
    }

    private void eachNumberOfAWrite() {
        due.about("write K V: K 0 .. 9, V 0 .. 999");
        for (int n = 0; n <= 999; n++) {
            acts("write 9 " + n, 1);
            if (n <= 9) {
                acts("write " + n + " 999", 1);
            } else {
                faultAt("write " + n + " 1", 6);
                faultAt("write " + n, 6);
            }
        }
        faultAt("write 9 1000", 11);
        faultAt("write 9  1", 8);
        faultAt("write  9 1", 6);
        faultAt("write 9;1", 7);
        faultAt("write 9 x", 8);
        faultAt("write 9 1 1", 9);
        faultAt("write 10 1000", 6);
    }

    private void noughtsAhead() {
        due.about("1 to 3 figures are taken");
        for (int k = 0; k <= 9; k++) {
            acts("get 0" + k, 1);
            acts("get 00" + k, 1);
            acts("write 00" + k + " 00" + k, 1);
        }
        acts("tick 050", 1);
        acts("tick 001", 1);
        faultAt("tick 0", 5);
        faultAt("tick 00", 5);
        faultAt("tick 000", 5);
        faultAt("tick 051", 5);
        acts("apply 002", 1);
        faultAt("apply 003", 6);
        acts("cold 005", 1);
        faultAt("warm 006", 5);
        faultAt("get 010", 4);
    }

    private void fourFigures() {
        due.about("figures are looked at, ahead of what stands behind them");
        faultAt("get 0001", 7);
        faultAt("get 0010", 7);
        faultAt("get 0100", 4);
        faultAt("get 1000", 4);
        faultAt("tick 0001", 5);
        faultAt("tick 0011", 8);
        faultAt("tick 0500", 8);
        faultAt("tick 0510", 5);
        faultAt("apply 0020", 9);
        faultAt("apply 0030", 6);
        faultAt("write 0000 1", 9);
        faultAt("write 0 0000", 11);
        faultAt("get 10;nothing", 4);
        faultAt("get 10nothing", 4);
        faultAt("get 1;nothing 10", 6);
    }

    private void eachFirstByte() {
        due.about("each byte as the first");
        for (char b = 0; b < 256; b++) {
            faultAt("" + b, 0);
            faultAt(b + "get 1", 0);
        }
    }

    private static boolean isLetter(char b) {
        return b >= 'a' && b <= 'z';
    }

    private static boolean isFigure(char b) {
        return b >= '0' && b <= '9';
    }

    private void eachByteBehindAWord() {
        due.about("each byte behind a WORD");
        for (char b = 0; b < 256; b++) {
            for (String word : WORDS) {
                boolean alone = word.equals("look") || word.equals("fill");
                boolean goesOn = b == (alone ? ';' : ' ');
                faultAt(word + b, isLetter(b) ? 0 : goesOn ? word.length() + 1 : word.length());
            }
        }
    }

    private void eachByteBehindABlank() {
        due.about("one blank ahead of each number, none elsewhere");
        for (char b = 0; b < 256; b++) {
            if (isFigure(b)) {
                acts("get " + b, 1);
                acts("write 3 " + b, 1);
            } else {
                faultAt("get " + b, 4);
                faultAt("get " + b + "1", 4);
                faultAt("write 3 " + b, 8);
                faultAt("tick " + b + "1", 5);
            }
        }
    }

    private void eachByteBehindAnAct() {
        due.about("each byte behind an ACT");
        for (char b = 0; b < 256; b++) {
            faultAt("get 5" + b, isFigure(b) ? 4 : b == ';' ? 6 : 5);
            faultAt("write 3" + b, isFigure(b) ? 6 : b == ' ' ? 8 : 7);
            faultAt("apply 002" + b, b == ';' ? 10 : 9);
            if (isFigure(b)) {
                acts("write 3 9" + b, 1);
            } else {
                faultAt("write 3 9" + b, b == ';' ? 10 : 9);
            }
            faultAt("look;fill" + b, isLetter(b) ? 5 : b == ';' ? 10 : 9);
        }
    }

    private void eachByteBehindASemicolon() {
        due.about("ACTS parted by ;");
        for (char b = 0; b < 256; b++) {
            faultAt("look;" + b, 5);
            faultAt("get 1;" + b + "look", 6);
        }
    }

    private void endsTooEarly() {
        due.about("the length, if it ends too early");
        String text = "get 4;write 3 17;tick 50;look";
        int[] faults = {0, 0, 0, 3, 4, -1, 6, 6, 6, 6, 6, 11, 12, 13, 14, -2, -2, 17, 17, 17, 17, 21, 22, -3, -3, 25, 25, 25, 25, -4};
        for (int length = 0; length <= text.length(); length++) {
            if (faults[length] < 0) {
                acts(text.substring(0, length), -faults[length]);
            } else {
                faultAt(text.substring(0, length), faults[length]);
            }
        }
    }

    private void oneToFiveActs() {
        due.about("ACTS, 1 .. 5 of them");
        StringBuilder text = new StringBuilder();
        for (int n = 1; n <= 5; n++) {
            text.append(n == 1 ? "" : ";").append("write 009 999");
            acts(text.toString(), n);
        }
        acts("get 0;look;fill;write 9 999;apply 2", 5);
        acts("tick 50;cold 5;warm 0;tick 1;apply 0", 5);
    }

    private void sixthAct() {
        due.about("of a sixth ACT: where it would begin");
        String five = "look;look;look;look;look";
        acts(five, 5);
        faultAt(five + ";", 25);
        faultAt(five + ";look", 25);
        faultAt(five + ";nothing", 25);
        faultAt(five + ";;", 25);
        faultAt(five + "; ", 25);
        faultAt(five + ";get 10", 25);
        faultAt(five + " ", 24);
        faultAt(five + "s", 20);
        faultAt("look;look;look;look;tick 51;look", 25);
        faultAt("get 0;get 0;get 0;get 0;get 0;get 0", 30);
    }

    private void faultLeavesThePlan() {
        due.about("THE TAPE is empty by it, too; the PLAN stays");
        LookAsideCache x = fresh();
        plan(x, 0, "get 1;look");
        String[] faults = {"", "get 10", "look;look;look;look;look;look", "look;fill;x", "get 2;look;fill;write 1 1"};
        for (String text : faults) {
            plan(x, 0, text.equals(faults[4]) ? text + ";" : text);
            due.is("plans", x.count(6), 1);
            due.is("its loads", x.orders(1, 1, 2), 1);
            due.is("its acts", x.orders(1, 1, 4), 0);
            due.is("empty", x.count(5), 0);
        }
        plan(x, 1, "look");
        due.is("its two acts", x.orders(3, 0, 0), 3);
    }

    private void planTakesThePlace() {
        due.about("becomes the PLAN of a CLIENT");
        LookAsideCache x = fresh();
        plan(x, 0, "get 1;look;fill;get 2;look");
        due.is("loads", x.orders(1, 1, 3), 2);
        due.is("a shorter one", plan(x, 0, "get 1;look"), 2);
        due.is("one plan", x.count(6), 1);
        due.is("loads", x.orders(1, 1, 3), 1);
        plan(x, 1, "look;look;look;look;look");
        due.is("seven acts", x.orders(3, 1, 0), 21);
        plan(x, 2, "fill");
        due.is("eight acts", x.orders(7, 1, 0), 168);
        due.is("the others' stay", x.orders(1, 1, 3), 1);
        for (int c = 3; c < 6; c++) {
            due.is("none of another", x.orders(1 << c, 1, 0), BAD);
            due.is("none of another", x.witness(1 << c, 0), BAD);
        }
    }

    // ---- ORDERS

    private void ordersOfOne() {
        due.about("ORDERS of one CLIENT");
        for (int c = 0; c < 6; c++) {
            LookAsideCache x = fresh();
            plan(x, c, "get 9;look;fill;get 9;look");
            due.is("one order", x.orders(1 << c, 9, 0), 1);
            due.is("one load", x.orders(1 << c, 9, 2), 1);
            due.is("one load", x.orders(1 << c, 9, 3), 1);
            due.is("its value at GROUP 0", x.orders(1 << c, 9, 4), c == 0 ? 1 : 0);
            due.is("of another key", x.orders(1 << c, 8, 4), 0);
            due.is("none outdated", x.orders(1 << c, 9, 1), 0);
            due.is("no witness", x.witness(1 << c, 0), NOT);
        }
    }

    private void ordersHowMany() {
        due.about("ORDERS: rows of CLIENTS, each as often as its PLAN has ACTS");
        String[] texts = {"", "look", "look;look", "look;look;look", "look;look;look;look", "look;look;look;look;look"};
        int[] factorials = {1, 1, 2, 6, 24, 120, 720, 5040, 40320};
        for (int a = 1; a <= 5; a++) {
            for (int b = 1; b <= 5; b++) {
                LookAsideCache x = fresh();
                plan(x, 1, texts[a]);
                plan(x, 4, texts[b]);
                int two = a + b > 8 ? STATE : factorials[a + b] / factorials[a] / factorials[b];
                due.is(a + " and " + b, x.orders(18, 0, 0), two);
                for (int c = 1; c <= 5; c++) {
                    plan(x, 5, texts[c]);
                    int all = a + b + c;
                    int three = all > 8 ? STATE : factorials[all] / factorials[a] / factorials[b] / factorials[c];
                    due.is(a + ", " + b + " and " + c, x.orders(50, 0, 0), three);
                    due.is("witness", x.witness(50, 0), all > 8 ? STATE : NOT);
                }
            }
        }
    }

    private void ordersWhosePlans() {
        due.about("ORDERS: one to three CLIENTS, each with a PLAN");
        LookAsideCache x = fresh();
        for (int c = 0; c < 6; c += 2) {
            plan(x, c, "look");
        }
        for (int bits = -2; bits <= 130; bits++) {
            boolean may = bits > 0 && bits < 64 && (bits & 42) == 0;
            int orders = new int[] {0, 1, 2, 6}[may ? Integer.bitCount(bits) : 0];
            due.is("clients " + bits, x.orders(bits, 0, 0), may ? orders : BAD);
            due.is("witness " + bits, x.witness(bits, 0), may ? NOT : BAD);
        }
        for (int c = 1; c < 6; c += 2) {
            plan(x, c, "look");
        }
        for (int bits = 1; bits < 64; bits++) {
            int orders = new int[] {0, 1, 2, 6, BAD, BAD, BAD}[Integer.bitCount(bits)];
            due.is("clients " + bits, x.orders(bits, 0, 0), orders);
        }
    }

    private void ordersEachAct() {
        due.about("ORDERS: each ACT is as told (get, look, fill, write of that CLIENT; apply R; TICKS)");
        LookAsideCache x = fresh();
        x.write(5, 3, 999);
        x.go(4, 0);
        plan(x, 4, "get 3;look;fill");
        due.is("fills at its group", x.orders(16, 3, 4), 1);
        plan(x, 4, "get 3;look;fill;write 3 5");
        due.is("a write deletes", x.orders(16, 3, 4), 0);
        plan(x, 4, "get 3;look;fill;apply 0");
        due.is("apply deletes", x.orders(16, 3, 4), 0);
        plan(x, 4, "get 3;look;fill;apply 1");
        due.is("elsewhere it doesn't", x.orders(16, 3, 4), 1);
        plan(x, 4, "get 3;look;fill;tick 49");
        due.is("still there", x.orders(16, 3, 4), 1);
        plan(x, 4, "get 3;look;fill;tick 50");
        due.is("gone", x.orders(16, 3, 4), 0);
        plan(x, 4, "get 3;look;tick 5;fill");
        due.is("in time", x.orders(16, 3, 4), 1);
        plan(x, 4, "get 3;look;tick 6;fill");
        due.is("late", x.orders(16, 3, 4), 0);
        plan(x, 4, "get 3;look;fill;cold 0");
        due.is("cold ends it", x.orders(16, 3, 4), 0);
        plan(x, 4, "get 3;look;fill;warm 0");
        due.is("warm doesn't", x.orders(16, 3, 4), 1);
        plan(x, 4, "get 3;look;fill;cold 1");
        due.is("another group", x.orders(16, 3, 4), 1);
        due.is("all in thought", x.count(0) * 100 + x.count(1) * 10 + x.count(7), 100);
    }

    private void ordersRefusedActs() {
        due.about("ORDERS: what would be refused does nothing");
        LookAsideCache x = fresh();
        plan(x, 0, "look;fill;apply 0;apply 1;apply 2");
        due.is("one order", x.orders(1, 0, 0), 1);
        due.is("no load", x.orders(1, 0, 3), 0);
        due.is("nothing there", x.orders(1, 0, 4), 0);
        for (int n = 0; n < 60; n++) {
            x.write(5, 3, n);
        }
        load(x, 0, 3);
        plan(x, 0, "write 3 1;fill;look");
        due.is("the 61st write deletes nothing", x.orders(1, 3, 4), 1);
        plan(x, 1, "apply 0");
        due.is("an apply does", x.orders(2, 3, 4), 0);
        due.is("still 60", x.count(0), 60);
    }

    private void ordersColdAndWarm() {
        due.about("ORDERS: cold G, warm G");
        LookAsideCache x = fresh();
        load(x, 0, 3);
        x.cold(1, 1);
        plan(x, 1, "get 3;look");
        due.is("a cold one beside a warm one", x.orders(2, 3, 3), 0);
        plan(x, 1, "warm 1;get 3;look");
        due.is("a warm one", x.orders(2, 3, 3), 1);
        plan(x, 1, "warm 1;cold 1;get 3;look");
        due.is("cold again", x.orders(2, 3, 3), 0);
        plan(x, 1, "warm 0;get 3;look;fill");
        due.is("warm beside it again: nothing ends", x.orders(2, 3, 3), 0);
        x.cold(0, 1);
        plan(x, 0, "warm 0;get 3;look;fill");
        plan(x, 1, "get 3;look");
        due.is("least loads: behind the warm one's fill", x.orders(3, 3, 2), 1);
        due.is("most loads", x.orders(3, 3, 3), 2);
        x.write(0, 4, 4);
        plan(x, 0, "warm 0;cold 0");
        due.is("hold-offs stay in thought", x.orders(1, 4, 0) + x.beside(0, 4, 5), 1 + 2);
    }

    private void ordersLoads() {
        due.about("ORDERS: LOADS of all STORES, the least and the most");
        LookAsideCache x = fresh();
        x.get(2, 1);
        x.look(2);
        x.look(2);
        plan(x, 0, "get 1;look;look");
        plan(x, 2, "write 1 1;look");
        plan(x, 5, "get 1;look");
        due.is("of home", x.orders(1, 0, 2), 2);
        due.is("by a marker", x.orders(4, 0, 2), 1);
        due.is("of region 2", x.orders(32, 0, 2), 1);
        due.is("all together", x.orders(37, 0, 2), 4);
        due.is("all together", x.orders(37, 0, 3), 4);
        plan(x, 0, "get 1;look;fill");
        x.go(5, 0);
        due.is("the other's fill ahead", x.orders(33, 0, 2), 1);
        due.is("it waits: none ahead of the fill", x.orders(33, 0, 3), 1);
        x.set(6, 0);
        due.is("without leases: one more at most", x.orders(33, 0, 3), 2);
        due.is("and one at least", x.orders(33, 0, 2), 1);
        for (int r = 0; r < 3; r++) {
            x.write(1, 7, 7);
            plan(x, 1, "apply " + r);
            due.is("an apply is no load", x.orders(2, 0, 2) + x.orders(2, 0, 3), 0);
            plan(x, 1, "cold 0;cold 5;tick 9;write 7 8");
            due.is("nor is any other", x.orders(2, 0, 3), 0);
        }
    }

    private void ordersValues() {
        due.about("ORDERS: how many unlike VALUES a GET would find as a HIT");
        int[] values = {0, 1, 62, 63, 64, 65, 126, 127, 128, 500, 895, 896, 959, 960, 998, 999};
        for (int a : values) {
            for (int b : values) {
                LookAsideCache x = fresh();
                x.write(2, 0, a);
                plan(x, 0, "get 0;look;fill");
                plan(x, 3, "write 0 " + b);
                due.is(a + " and " + b, x.orders(9, 0, 4), a == b ? 1 : 2);
            }
        }
        LookAsideCache x = fresh();
        x.set(6, 0);
        plan(x, 0, "get 0;look;fill");
        plan(x, 2, "write 0 7;write 0 8;write 0 9;write 0 7");
        due.is("four of five versions", x.orders(5, 0, 4), 4);
        x.go(0, 1);
        due.is("of GROUP 0 alone", x.orders(5, 0, 4), 0);
        x.go(0, 0);
        load(x, 0, 0);
        due.is("there already", x.orders(5, 0, 4), 1);
        x.tick(50);
        plan(x, 0, "get 0;look;fill;tick 50");
        due.is("gone behind each", x.orders(1, 0, 4), 0);
    }

    private void ordersOutdated() {
        due.about("ORDERS: behind which some ENTRY of any GROUP is OUTDATED");
        for (int c = 0; c < 6; c++) {
            LookAsideCache x = fresh();
            x.set(6, 0);
            plan(x, c, "get 4;look;fill");
            plan(x, (c + 2) % 6, "write 4 17;apply " + c / 2);
            int both = 1 << c | 1 << (c + 2) % 6;
            due.is("how many", x.orders(both, 0, 0), 10);
            due.is("stale at " + c, x.orders(both, 0, 1), c < 2 ? 1 : 3);
            due.is("a witness", x.witness(both, 0) == NOT ? 0 : 1, 1);
        }
        LookAsideCache x = fresh();
        x.write(0, 1, 1);
        x.apply(2);
        row(x, 0, 1000);
        x.restore(0, 0, 1, 5);
        plan(x, 0, "look");
        due.is("one from before", x.orders(1, 0, 1), 1);
        plan(x, 0, "tick 50");
        due.is("gone", x.orders(1, 0, 1), 0);
    }

    private void witnessOfTheFirst() {
        due.about("36 witness: least first (by the first unlike CLIENT)");
        LookAsideCache x = fresh();
        x.write(0, 1, 1);
        x.apply(2);
        row(x, 0, 1000);
        x.restore(0, 0, 1, 5);
        plan(x, 0, "look;look");
        plan(x, 3, "look;look;look");
        plan(x, 5, "look;look;look");
        int[] first = {0, 0, 3, 3, 3, 5, 5, 5};
        for (int k = 0; k < 8; k++) {
            due.is("client " + k, x.witness(41, k), first[k]);
        }
        due.is("it has fewer", x.witness(41, 8), NOT);
        due.is("all of them are", x.orders(41, 0, 1), 560);
        plan(x, 3, "tick 50");
        for (int k = 0; k < 4; k++) {
            due.is("none such", x.witness(9, k), NOT);
        }
    }

    private void witnessOfThree() {
        due.about("36 witness: the first behind which one is OUTDATED");
        LookAsideCache x = fresh();
        x.set(6, 0);
        plan(x, 0, "fill");
        plan(x, 1, "write 4 17;apply 0");
        plan(x, 2, "look");
        x.get(0, 4);
        x.look(0);
        int[] first = {1, 1, 0, 2};
        for (int k = 0; k < 4; k++) {
            due.is("client " + k, x.witness(7, k), first[k]);
        }
        due.is("it has fewer", x.witness(7, 4), NOT);
        due.is("of twelve", x.orders(7, 4, 0), 12);
        due.is("four", x.orders(7, 4, 1), 4);
    }
}
