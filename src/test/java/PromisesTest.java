/** Promise by promise: ordinary inputs, edges and wrong inputs, all reckoned by hand from the document. */
final class PromisesTest {
    private static final int NONE = SwingLeaves.NONE, UNKNOWN = SwingLeaves.UNKNOWN, OUTSIDE = SwingLeaves.OUTSIDE;
    private static final int NOT = SwingLeaves.NOT, FULL = SwingLeaves.FULL;
    private static final int LOW = Integer.MIN_VALUE, HIGH = Integer.MAX_VALUE;

    /** Waiter 1 calls, waits, is struck; 2 crashes into him; 4 calls, waits, is struck. */
    private static final String BUSY = "l0 3 4;l1 2 5;w0 10 6 9 2 0 0;w1 12 5 8 3 1 1;w0 18 4 7 1 0 0;w1 30 6 5 2 0 0;w0 33 9 4 4 1 1;";
    private static final String IDLE = "w0 0 1 0 1 0 0;";
    /** Two of the kitchen: the second is struck if he comes 3 to 5 tenths behind the first. */
    private static final String TWINS = "l0 1 5;w0 0 3 10 1 0 0;w0 3 3 20 1 0 0;";

    private static final Checks CHECKS = new Checks();

    private static void due(String call, int want, int got) {
        CHECKS.due(call, want, got);
    }

    public static void main(String[] args) {
        newObject();
        feed();
        house();
        faults();
        told();
        leafAndWaiter();
        setters();
        drift();
        pass();
        passes();
        leafAt();
        all();
        best();
        bestKick();
        change();
        worth();
        apart();
        order();
        rests();
        stack();
        until();
        unheard();
        learns();
        book();
        seed();
        images();
        imagesAnew();
        CHECKS.end();
    }

    /** All that can be asked without changing it. */
    private static String stateOf(SwingLeaves x) {
        StringBuilder s = new StringBuilder();
        for (int what = 0; what <= 10; what++) {
            s.append(x.told(what)).append(' ');
        }
        for (int l = 0; l < 2; l++) {
            for (int what = 0; what <= 3; what++) {
                s.append(x.leaf(l, what)).append(' ');
            }
        }
        for (int w = 0; w < x.told(0); w++) {
            for (int what = 0; what <= 6; what++) {
                s.append(x.waiter(w, what)).append(' ');
            }
        }
        int seed = x.seed(0);
        x.seed(seed);
        return s.append(seed).append(' ').append(x.judge()).append(' ').append(x.fault()).toString();
    }

    private static void same(String what, String before, SwingLeaves x) {
        due(what + " changes nothing", 1, before.equals(stateOf(x)) ? 1 : 0);
    }

    private static void newObject() {
        SwingLeaves x = new SwingLeaves();
        int[] told = {0, 0, 0, 9, 0, 0, 0, 0, 0, 0, 0};
        for (int what = 0; what <= 10; what++) {
            due("new: told(" + what + ")", told[what], x.told(what));
        }
        for (int l = 0; l < 2; l++) {
            due("new: leaf H", 2, x.leaf(l, 0));
            due("new: leaf B", 3, x.leaf(l, 1));
            due("new: leaf takers", 0, x.leaf(l, 2));
            due("new: leaf kicks", 0, x.leaf(l, 3));
            due("new: leafAt(0)", 0, x.leafAt(l, 0));
        }
        due("new: fault()", NONE, x.fault());
        due("new: waiter(0, 0)", UNKNOWN, x.waiter(0, 0));
        due("new: pass(0, 0)", UNKNOWN, x.pass(0, 0));
        due("new: drift(1)", NOT, x.drift(1));
        due("new: best(NONE)", 0, x.best(NONE));
        due("new: best(0)", UNKNOWN, x.best(0));
        due("new: all(2)", 0, x.all(2));
        due("new: change tenth", 0, x.change(0, 1, 0));
        due("new: order cost", 0, x.order(0, NONE));
        due("new: order(0, 0)", NONE, x.order(0, 0));
        due("new: judge()", NONE, x.judge());
        due("new: goBack(0)", NOT, x.goBack(0));
        due("new: seed(0)", 0, x.seed(0));
    }

    private static void feed() {
        SwingLeaves x = new SwingLeaves();
        due("feed(-1)", OUTSIDE, x.feed(-1));
        due("feed(256)", OUTSIDE, x.feed(256));
        due("feed(0)", 1, x.feed(0));
        due("feed(255)", 2, x.feed(255));
        for (int n = 3; n <= 250; n++) {
            due("feed a blank", n, x.feed(' '));
        }
        due("feed the 251st", FULL, x.feed(' '));
        due("feed a wrong 251st", OUTSIDE, x.feed(LOW));
        due("told(1)", 250, x.told(1));
        due("house of letter 0", -11, x.house());
        due("its fault", 0, x.fault());
        due("told(1) behind house", 0, x.told(1));
        due("feed behind house", 1, x.feed('g'));
    }

    private static void house() {
        SwingLeaves x = Checks.houseOf(BUSY + "g1;n2;");
        x.write(0, 0);
        x.keep(0);
        x.keep(1);
        x.seed(77);
        x.come(0, 999);
        Checks.feedAll(x, "l1 9 0;w1 5 1 0 1 2 1;x");
        due("a house with a fault", -11, x.house());
        due("its fault", 22, x.fault());
        due("the book stays", 1, x.told(4));
        due("the waiters stay", 5, x.told(0));
        due("C stays", 999, x.waiter(0, 1));
        due("the leaf stays", 2, x.leaf(1, 0));
        due("the text is gone", 0, x.told(1));
        due("the images stay", 1, x.goBack(0));
        due("C comes back", 10, x.waiter(0, 1));
        Checks.feedAll(x, "w1 5 1 0 1 2 1;");
        due("another house", 1, x.house());
        due("no fault", NONE, x.fault());
        due("no book", 0, x.told(4));
        due("no window", 0, x.told(2));
        due("noise untold", 9, x.told(3));
        due("leaf untold, H", 2, x.leaf(1, 0));
        due("leaf untold, B", 3, x.leaf(1, 1));
        due("image 0 is gone", NOT, x.goBack(0));
        due("image 1 is gone", NOT, x.goBack(1));
        x.seed(78);
        due("an empty house", 0, x.house());
        due("nobody", UNKNOWN, x.waiter(0, 0));
        due("the seed stays", 78, x.seed(0));
        fits("  ", 0);
        fits(" l 1  9 0 ;g 0 ; n9; w 1 999 30 99 9 2 1 ; ", 1);
        fits("n009;g001;", 0);
        fits("w0 000 001 000 1 0 0;w1 0 1 0 1 0 0;", 2);
        fits(IDLE + IDLE + IDLE + IDLE + IDLE + IDLE, 6);
        fits("l1 1 9;l0 9 9;", 0);
    }

    private static void fits(String text, int waiters) {
        SwingLeaves x = new SwingLeaves();
        Checks.feedAll(x, text);
        due("house of '" + text + "'", waiters, x.house());
        due("fault of '" + text + "'", NONE, x.fault());
    }

    private static void faultIn(String text, int number, int place) {
        SwingLeaves x = new SwingLeaves();
        Checks.feedAll(x, text);
        due("house of '" + text + "'", -10 - number, x.house());
        due("fault of '" + text + "'", place, x.fault());
        due("waiters of '" + text + "'", 0, x.told(0));
    }

    private static void faults() {
        faultIn("x", 1, 0);
        faultIn("G1;", 1, 0);
        faultIn(";", 1, 0);
        faultIn("1", 1, 0);
        faultIn("g1;\t", 1, 3);
        faultIn("g", 1, 1);
        faultIn("g ", 1, 2);
        faultIn("g;", 1, 1);
        faultIn("g1", 1, 2);
        faultIn("g1 ", 1, 3);
        faultIn("g1g", 1, 2);
        faultIn("g1 1;", 1, 3);
        faultIn("g-1;", 1, 1);
        faultIn("l0 1;", 1, 4);
        faultIn("l0 1 1 1;", 1, 7);
        faultIn("w0 0 1 0 1 0;", 1, 12);
        faultIn("g2;", 2, 1);
        faultIn("g 0001;", 2, 2);
        faultIn("g99999999999999999999;", 2, 1);
        faultIn("g4294967297;", 2, 1);
        faultIn("n10;", 2, 1);
        faultIn("n1000x", 2, 1);
        faultIn("l2 1 1;", 2, 1);
        faultIn("l0 0 1;", 2, 3);
        faultIn("l0 10 1;", 2, 3);
        faultIn("l0 1 10;", 2, 5);
        faultIn("l011;", 2, 1);
        faultIn("w2 0 1 0 1 0 0;", 2, 1);
        faultIn("w0 1000 1 0 1 0 0;", 2, 3);
        faultIn("w0 0 0 0 1 0 0;", 2, 5);
        faultIn("w0 0 31 0 1 0 0;", 2, 5);
        faultIn("w0 0 1 100 1 0 0;", 2, 7);
        faultIn("w0 0 1 0 0 0 0;", 2, 9);
        faultIn("w0 0 1 0 10 0 0;", 2, 9);
        faultIn("w0 0 1 0 1 3 0;", 2, 11);
        faultIn("w0 0 1 0 1 0 2;", 2, 13);
        faultIn(IDLE + IDLE + IDLE + IDLE + IDLE + IDLE + "w", 3, 90);
        faultIn("g1;g1;", 3, 3);
        faultIn("n1; n1;", 3, 4);
        faultIn("l0 1 1;l0 1 1;", 4, 8);
        faultIn("l1 1 1;l0 1 1;l 1 1 1;", 4, 16);
        faultIn("l0 1 1;l0000 1 1;", 2, 8);
        faultIn("l0 1 1;l", 1, 8);
    }

    private static void told() {
        SwingLeaves x = Checks.houseOf(BUSY);
        int[] told = {5, 0, 0, 9, 0, 7, 19, 197, 2, 1, 45};
        for (int what = 0; what <= 10; what++) {
            due("told(" + what + ")", told[what], x.told(what));
        }
        x.feed('g');
        x.write(0, 0);
        x.glass(true);
        x.noise(3);
        int[] later = {5, 1, 1, 3, 1};
        for (int what = 0; what <= 4; what++) {
            due("told(" + what + ") later", later[what], x.told(what));
        }
        due("told(-1)", OUTSIDE, x.told(-1));
        due("told(11)", OUTSIDE, x.told(11));
        // The last one to be through need not be the last one looked at.
        due("told(10): the long one", 30, Checks.houseOf("w0 0 30 0 1 0 0;w1 1 1 0 1 0 0;").told(10));
    }

    private static void leafAndWaiter() {
        SwingLeaves x = Checks.houseOf(BUSY);
        int[][] leaves = {{3, 4, 3, 2}, {2, 5, 2, 2}};
        for (int l = 0; l < 2; l++) {
            for (int what = 0; what <= 3; what++) {
                due("leaf(" + l + ", " + what + ")", leaves[l][what], x.leaf(l, what));
            }
        }
        due("leaf(-1, 9)", UNKNOWN, x.leaf(-1, 9));
        due("leaf(2, 0)", UNKNOWN, x.leaf(2, 0));
        due("leaf(0, -1)", OUTSIDE, x.leaf(0, -1));
        due("leaf(0, 4)", OUTSIDE, x.leaf(0, 4));
        int[] one = {1, 12, 5, 8, 3, 1, 1};
        for (int what = 0; what <= 6; what++) {
            due("waiter(1, " + what + ")", one[what], x.waiter(1, what));
        }
        due("waiter(5, 9)", UNKNOWN, x.waiter(5, 9));
        due("waiter(-1, 0)", UNKNOWN, x.waiter(-1, 0));
        due("waiter(0, 7)", OUTSIDE, x.waiter(0, 7));
        due("waiter(0, -1)", OUTSIDE, x.waiter(0, -1));
    }

    private static void setters() {
        SwingLeaves x = Checks.houseOf(BUSY);
        String before = stateOf(x);
        due("come(5, 1000)", UNKNOWN, x.come(5, 1000));
        due("come(-1, 0)", UNKNOWN, x.come(-1, 0));
        due("come(0, 1000)", OUTSIDE, x.come(0, 1000));
        due("come(0, -1)", OUTSIDE, x.come(0, -1));
        due("rule(5, 3)", UNKNOWN, x.rule(5, 3));
        due("rule(0, 3)", OUTSIDE, x.rule(0, 3));
        due("rule(0, -1)", OUTSIDE, x.rule(0, -1));
        due("kick(5, 0)", UNKNOWN, x.kick(5, 0));
        due("kick(0, 0)", OUTSIDE, x.kick(0, 0));
        due("kick(0, 10)", OUTSIDE, x.kick(0, 10));
        due("noise(10)", OUTSIDE, x.noise(10));
        due("noise(-1)", OUTSIDE, x.noise(-1));
        due("drift(0)", OUTSIDE, x.drift(0));
        due("drift(100)", OUTSIDE, x.drift(100));
        due("seed(-1)", OUTSIDE, x.seed(-1));
        due("write(5, 7)", UNKNOWN, x.write(5, 7));
        due("write(0, 7)", OUTSIDE, x.write(0, 7));
        due("write(0, -1)", OUTSIDE, x.write(0, -1));
        due("keep(2)", UNKNOWN, x.keep(2));
        due("goBack(2)", UNKNOWN, x.goBack(2));
        due("goBack(-1)", UNKNOWN, x.goBack(-1));
        due("goBack(1)", NOT, x.goBack(1));
        same("what is refused", before, x);
        due("come(0, 0)", 10, x.come(0, 0));
        due("come(0, 999)", 0, x.come(0, 999));
        due("C", 999, x.waiter(0, 1));
        due("rule(0, 2)", 0, x.rule(0, 2));
        due("rule(0, 0)", 2, x.rule(0, 0));
        due("kick(0, 9)", 2, x.kick(0, 9));
        due("kick(0, 1)", 9, x.kick(0, 1));
        due("KICK", 1, x.waiter(0, 4));
        due("glass(false)", 0, x.glass(false));
        due("glass(true)", 0, x.glass(true));
        due("glass(true)", 1, x.glass(true));
        due("glass(false)", 1, x.glass(false));
        due("noise(0)", 9, x.noise(0));
        due("noise(9)", 0, x.noise(9));
        due("NOISE", 9, x.told(3));
    }

    private static void drift() {
        // From seed 0: 12345, 1406932606, 654583775, 1449466924: of 200, of 4, of 200, of 4: 0, 0, 188, 1.
        SwingLeaves x = Checks.houseOf("w0 7 1 50 1 0 0;");
        due("drift(1)", 0, x.drift(1));
        due("C by a draw", 0, x.waiter(0, 1));
        due("the window clears", 1, x.told(2));
        due("drift(1) again", 0, x.drift(1));
        due("C by the next", 188, x.waiter(0, 1));
        due("the window stays", 1, x.told(2));
        due("the seed", 1449466924, x.seed(0));
        due("drift(2)", 0, x.drift(2));
        due("the window is steam", 0, x.told(2));
        // Of 200, of 200, of 4: 0, 68, 0.
        SwingLeaves two = Checks.houseOf("w0 7 30 50 1 0 0;w1 8 30 50 1 1 0;");
        two.drift(1);
        due("first of two", 0, two.waiter(0, 1));
        due("second of two", 68, two.waiter(1, 1));
        due("a draw of 4 that is 0", 1, two.told(2));
        SwingLeaves sum = Checks.houseOf(BUSY);
        SwingLeaves each = Checks.houseOf(BUSY);
        int together = 0;
        for (int i = 0; i < 99; i++) {
            int one = each.drift(1);
            due("an evening's cost", one, each.told(7));
            together += one;
        }
        due("drift(99)", together, sum.drift(99));
        due("some of them cost", 1, together > 0 ? 1 : 0);
    }

    private static void passIs(SwingLeaves x, int w, int... want) {
        for (int what = 0; what <= 5; what++) {
            due("pass(" + w + ", " + what + ")", want[what], x.pass(w, what));
        }
    }

    private static void pass() {
        SwingLeaves x = Checks.houseOf(BUSY);
        passIs(x, 0, 0, 10, 16, 0, 0, 0);
        passIs(x, 1, 6, 16, 21, 0, 4, 1);
        passIs(x, 2, 6, 18, 38, 0, 0, 1);
        passIs(x, 3, 0, 30, 36, 1, 0, 0);
        passIs(x, 4, 5, 36, 45, 1, 3, 1);
        due("pass(5, 6)", UNKNOWN, x.pass(5, 6));
        due("pass(-1, 0)", UNKNOWN, x.pass(-1, 0));
        due("pass(0, 6)", OUTSIDE, x.pass(0, 6));
        due("pass(0, -1)", OUTSIDE, x.pass(0, -1));
    }

    private static SwingLeaves kinds(String text, int... want) {
        SwingLeaves x = Checks.houseOf(text);
        for (int w = 0; w < want.length; w++) {
            due("KIND of " + w + " in " + text, want[w], x.pass(w, 0));
        }
        return x;
    }

    private static void passes() {
        // Plain, followed while it is busy, followed while it is open, struck, plain again: H 2, B 3.
        kinds("w0 0 4 1 3 0 0;w0 3 1 1 1 0 0;w0 5 1 1 1 0 0;w0 6 1 1 1 0 0;w0 50 1 1 1 0 0;", 0, 1, 1, 5, 0);
        // The edges: open up to 2, back up to 5.
        kinds("w0 0 1 1 1 0 0;w0 1 1 1 1 0 0;", 0, 1);
        kinds("w0 0 1 1 1 0 0;w0 2 1 1 1 0 0;", 0, 5);
        kinds("w0 0 1 1 1 0 0;w0 4 1 1 1 0 0;", 0, 5);
        kinds("w0 0 1 1 1 0 0;w0 5 1 1 1 0 0;", 0, 0);
        // Wrong; followed by the other leaf is followed.
        kinds("w0 0 1 1 1 1 0;w0 1 1 1 1 1 0;", 2, 1);
        // By sight: his own is busy for the other side, the other one is not; then both are.
        kinds("w1 0 9 1 1 1 0;w0 1 9 1 1 2 0;", 2, 2);
        SwingLeaves both = kinds("w1 0 9 1 1 1 0;w1 1 9 1 1 0 0;w0 2 9 1 1 2 0;", 6, 0, 6);
        due("his own, if both are busy", 0, both.pass(2, 3));
        // His own is busy for his own side: that does not matter.
        due("own stays", 0, Checks.houseOf("w0 0 9 1 1 0 0;w0 1 9 1 1 2 0;").pass(1, 3));
        // The window goes ahead of the call.
        kinds("g1;w0 0 9 1 1 0 0;w1 1 9 1 1 1 1;", 0, 4);
        kinds("w0 0 9 1 1 0 0;w1 1 9 1 1 1 1;", 0, 3);
        kinds("n1;w0 0 9 1 1 0 0;w1 1 9 1 1 1 1;", 6, 6);
        kinds("n2;w0 0 9 1 1 0 0;w1 1 9 1 1 1 1;", 0, 3);
        // Who comes at the same tenth, or 21 ahead, is not counted; 20 ahead is.
        kinds("n1;w0 5 9 1 1 0 0;w1 5 9 1 1 1 1;", 0, 3);
        kinds("n1;w0 0 30 1 1 0 0;w1 20 9 1 1 1 1;", 6, 6);
        kinds("n1;w0 0 30 1 1 0 0;w1 21 9 1 1 1 1;", 0, 3);
        kinds("n0;w0 5 9 1 1 0 0;w1 5 9 1 1 1 1;", 6, 6);
        // He crashes with the one looked at last of those who are busy there.
        SwingLeaves last = kinds("w0 0 9 10 1 0 0;w0 1 2 20 1 0 0;w1 5 1 40 1 1 0;", 0, 6, 6);
        due("lost by them", 60, last.told(6));
        // A pass that is over at the tenth makes no crash.
        kinds("w0 0 5 1 9 0 0;w1 5 1 1 1 1 0;", 0, 1);
        // One who waits goes later; who is looked at behind him stretches the while.
        SwingLeaves late = kinds("g1;w0 0 10 1 1 0 0;w1 1 5 1 1 1 0;w1 2 3 1 1 1 0;w0 11 1 1 1 0 0;", 0, 4, 4, 4);
        due("the second waits, too", 10, late.pass(2, 1));
        due("the last waits for both", 15, late.pass(3, 1));
        // Of like ones the least goes first; else who comes earlier.
        due("the later one crashes", 29, Checks.houseOf("w0 9 3 1 1 0 0;w1 9 3 1 1 1 0;").pass(1, 2));
        SwingLeaves turned = Checks.houseOf("w0 9 3 1 1 0 0;w1 8 3 1 1 1 0;");
        due("the earlier one goes first", 11, turned.pass(1, 2));
        due("and he crashes", 29, turned.pass(0, 2));
    }

    private static void leafAt() {
        SwingLeaves x = Checks.houseOf("w0 10 3 1 3 0 0;");
        int[] does = {0, 1, 1, 1, 2, 2, 2, 3, 3, 3, 0};
        for (int i = 0; i < does.length; i++) {
            due("leafAt(0, " + (9 + i) + ")", does[i], x.leafAt(0, 9 + i));
        }
        due("leafAt(1, 10)", 0, x.leafAt(1, 10));
        due("leafAt(0, 9999)", 0, x.leafAt(0, 9999));
        due("leafAt(0, 10000)", OUTSIDE, x.leafAt(0, 10000));
        due("leafAt(0, -1)", OUTSIDE, x.leafAt(0, -1));
        due("leafAt(2, -1)", UNKNOWN, x.leafAt(2, -1));
        due("leafAt(-1, 0)", UNKNOWN, x.leafAt(-1, 0));
        // A crash keeps it busy for 20 tenths; no kick comes with it.
        SwingLeaves crash = Checks.houseOf("w0 0 3 1 9 0 0;w1 1 3 1 9 1 0;");
        due("busy by the crash", 1, crash.leafAt(0, 20));
        due("shut behind it", 0, crash.leafAt(0, 21));
    }

    private static void all() {
        SwingLeaves x = Checks.houseOf(BUSY);
        String before = stateOf(x);
        due("all(0)", 70, x.all(0));
        due("all(1)", 70, x.all(1));
        due("all(2)", 70, x.all(2));
        due("all(3)", OUTSIDE, x.all(3));
        due("all(-1)", OUTSIDE, x.all(-1));
        same("all", before, x);
        // By the wrong leaf of one: all by 0 or 1 never meet.
        SwingLeaves meet = Checks.houseOf("w0 0 9 5 1 0 0;w1 1 9 6 1 1 0;");
        due("they crash", 110, meet.told(7));
        due("all(0) of them", 0, meet.all(0));
    }

    private static void best() {
        SwingLeaves x = Checks.houseOf(BUSY);
        String before = stateOf(x);
        due("best(NONE)", 0, x.best(NONE));
        int[] rules = {1, 1, 0, 0, 0};
        for (int w = 0; w < 5; w++) {
            due("best(" + w + ")", rules[w], x.best(w));
        }
        due("best(5)", UNKNOWN, x.best(5));
        due("best(-2)", UNKNOWN, x.best(-2));
        due("best(LOW)", UNKNOWN, x.best(LOW));
        same("best", before, x);
    }

    private static void bestKick() {
        SwingLeaves x = Checks.houseOf(BUSY);
        String before = stateOf(x);
        due("bestKick(3, 0)", 4, x.bestKick(3, 0));
        due("bestKick(3, 1)", 157, x.bestKick(3, 1));
        due("bestKick(0, 0), all alike", 1, x.bestKick(0, 0));
        due("bestKick(0, 1)", 197, x.bestKick(0, 1));
        due("bestKick(5, 2)", UNKNOWN, x.bestKick(5, 2));
        due("bestKick(0, 2)", OUTSIDE, x.bestKick(0, 2));
        due("bestKick(0, -1)", OUTSIDE, x.bestKick(0, -1));
        same("bestKick", before, x);
        // Up to kick 8 the leaf comes back as the second one comes.
        SwingLeaves hard = Checks.houseOf("l0 1 9;w0 0 1 0 1 0 0;w0 8 1 10 1 0 0;");
        due("bestKick: the hardest", 9, hard.bestKick(0, 0));
        due("bestKick: its cost", 0, hard.bestKick(0, 1));
        due("bestKick: of the other one", 100, hard.bestKick(1, 1));
    }

    private static void change() {
        SwingLeaves x = Checks.houseOf(BUSY);
        String before = stateOf(x);
        due("change(0, 1, 0)", 0, x.change(0, 1, 0));
        due("change(0, 1, 1)", 70, x.change(0, 1, 1));
        due("change(1, 0, 0)", 13, x.change(1, 0, 0));
        due("change(1, 0, 1)", 0, x.change(1, 0, 1));
        due("change(3, 0, 0)", OUTSIDE, x.change(3, 0, 0));
        due("change(0, 3, 0)", OUTSIDE, x.change(0, 3, 0));
        due("change(-1, 0, 0)", OUTSIDE, x.change(-1, 0, 0));
        due("change(0, -1, 0)", OUTSIDE, x.change(0, -1, 0));
        due("change(0, 0, 2)", OUTSIDE, x.change(0, 0, 2));
        due("change(0, 0, -1)", OUTSIDE, x.change(0, 0, -1));
        same("change", before, x);
        // By leaf 1 the second would be struck.
        SwingLeaves last = Checks.houseOf("l0 9 9;l1 1 9;w0 998 1 5 1 0 0;w0 999 1 5 1 0 0;");
        due("change(1, 0, 0): from the start", 0, last.change(1, 0, 0));
        due("change(0, 1, 0): the second by the other leaf", 999, last.change(0, 1, 0));
        SwingLeaves never = Checks.houseOf("l0 9 9;l1 1 9;w0 998 1 5 1 0 0;w1 998 1 5 1 0 0;w0 999 1 5 1 0 0;");
        due("change(0, 1, 0): leaf 1 comes back at 999, so never", 1000, never.change(0, 1, 0));
        due("change(0, 1, 1)", 0, never.change(0, 1, 1));
    }

    private static void worth() {
        SwingLeaves x = Checks.houseOf(BUSY);
        String before = stateOf(x);
        due("worth(0, 1)", 67, x.worth(0, 1));
        due("worth(0, 999)", 66933, x.worth(0, 999));
        due("worth(0, 0)", 0, x.worth(0, 0));
        due("worth(1, 9): quiet it is", 0, x.worth(1, 9));
        due("worth(2, 0)", OUTSIDE, x.worth(2, 0));
        due("worth(-1, 0)", OUTSIDE, x.worth(-1, 0));
        due("worth(0, 1000)", OUTSIDE, x.worth(0, 1000));
        due("worth(0, -1)", OUTSIDE, x.worth(0, -1));
        same("worth", before, x);
        x.noise(1);
        due("worth(1, 2)", 266, x.worth(1, 2));
        x.glass(true);
        due("worth(1, 2) behind a window", 0, x.worth(1, 2));
        x.noise(9);
        due("worth(0, 1), the window is clear", 67, x.worth(0, 1));
        SwingLeaves empty = Checks.houseOf("w0 0 10 0 1 0 0;w1 1 5 0 1 1 0;");
        due("worth(0, 2): they wait for nothing", -18, empty.worth(0, 2));
    }

    private static void apart() {
        SwingLeaves x = Checks.houseOf(TWINS);
        String before = stateOf(x);
        due("apart(0, 0)", 0, x.apart(0, 0));
        due("apart(0, 2)", 0, x.apart(0, 2));
        due("apart(0, 3)", 200, x.apart(0, 3));
        due("apart(0, 5)", 200, x.apart(0, 5));
        due("apart(0, 6)", 0, x.apart(0, 6));
        due("apart(0, 50)", 0, x.apart(0, 50));
        due("apart(1, 7): nobody there", 200, x.apart(1, 7));
        due("apart(0, 51)", OUTSIDE, x.apart(0, 51));
        due("apart(0, -1)", OUTSIDE, x.apart(0, -1));
        due("apart(2, 0)", OUTSIDE, x.apart(2, 0));
        due("apart(-1, 0)", OUTSIDE, x.apart(-1, 0));
        same("apart", before, x);
        x.come(0, 500);
        due("apart(0, 3): by their numbers", 200, x.apart(0, 3));
        due("apart(0, 0) in the busy house", 84, Checks.houseOf(BUSY).apart(0, 0));
    }

    private static void order() {
        SwingLeaves x = Checks.houseOf(TWINS);
        String before = stateOf(x);
        due("order(0, NONE)", 100, x.order(0, NONE));
        due("order(0, 0)", 1, x.order(0, 0));
        due("order(0, 1)", 0, x.order(0, 1));
        due("order(0, 2)", NONE, x.order(0, 2));
        due("order(0, HIGH)", NONE, x.order(0, HIGH));
        due("order(0, -2)", NONE, x.order(0, -2));
        due("order(1, NONE)", 200, x.order(1, NONE));
        due("order(1, 0)", NONE, x.order(1, 0));
        due("order(2, 0)", OUTSIDE, x.order(2, 0));
        due("order(-1, NONE)", OUTSIDE, x.order(-1, NONE));
        same("order", before, x);
        x.come(0, 9);
        due("order(0, 0): of like ones the lesser", 0, x.order(0, 0));
        due("order(0, NONE) then", 0, x.order(0, NONE));
    }

    private static void rests() {
        SwingLeaves x = Checks.houseOf(BUSY);
        due("rests(0, 1)", 6, x.rests(0, 1));
        due("rests(0, 2)", NOT, x.rests(0, 2));
        due("rests(0, 0)", UNKNOWN, x.rests(0, 0));
        due("rests(5, 0)", UNKNOWN, x.rests(5, 0));
        due("rests(0, 5)", UNKNOWN, x.rests(0, 5));
        due("rests(-1, -1)", UNKNOWN, x.rests(-1, -1));
        due("both go", 1, Checks.houseOf("w0 0 30 0 1 0 0;w1 0 30 0 1 0 0;").rests(0, 1));
        due("alike", 7, Checks.houseOf("w0 0 20 0 1 0 0;w1 0 20 0 1 0 0;").rests(1, 0));
        SwingLeaves unlike = Checks.houseOf("w0 0 1 0 1 0 0;w1 0 30 99 1 0 0;");
        due("the first goes", 2, unlike.rests(0, 1));
        due("the second goes", 4, unlike.rests(1, 0));
    }

    private static void stack() {
        SwingLeaves x = new SwingLeaves();
        due("stack(0)", 9, x.stack(0));
        due("stack(7)", 7, x.stack(7));
        due("stack(10)", 5, x.stack(10));
        due("stack(20), 2 and 3 alike", 2, x.stack(20));
        due("stack(100)", 1, x.stack(100));
        due("stack(101)", OUTSIDE, x.stack(101));
        due("stack(-1)", OUTSIDE, x.stack(-1));
    }

    private static void until() {
        SwingLeaves x = new SwingLeaves();
        due("until(0, 100)", 0, x.until(0, 100));
        due("until(0, 99)", NONE, x.until(0, 99));
        due("until(1000, 0)", 1, x.until(1000, 0));
        due("until(500, 50)", 1, x.until(500, 50));
        due("until(500, 49)", 2, x.until(500, 49));
        due("until(500, 0), cut", 30, x.until(500, 0));
        due("until(10, 50)", 69, x.until(10, 50));
        due("until(1, 0)", NONE, x.until(1, 0));
        due("until(1001, 0)", OUTSIDE, x.until(1001, 0));
        due("until(-1, 0)", OUTSIDE, x.until(-1, 0));
        due("until(0, 101)", OUTSIDE, x.until(0, 101));
        due("until(0, -1)", OUTSIDE, x.until(0, -1));
    }

    private static void unheard() {
        SwingLeaves x = new SwingLeaves();
        due("unheard(20, 50, 0)", 1, x.unheard(20, 50, 0));
        due("unheard(20, 50, 1)", 3, x.unheard(20, 50, 1));
        due("unheard(0, 5, 0)", 0, x.unheard(0, 5, 0));
        due("unheard(0, 5, 1)", 1, x.unheard(0, 5, 1));
        due("unheard(100, 0, 0)", 1, x.unheard(100, 0, 0));
        due("unheard(100, 0, 1)", 1, x.unheard(100, 0, 1));
        due("unheard(1, 1, 0)", 100, x.unheard(1, 1, 0));
        due("unheard(1, 1, 1)", 199, x.unheard(1, 1, 1));
        due("unheard(0, 0, 0)", NOT, x.unheard(0, 0, 0));
        due("unheard(0, 0, 2)", OUTSIDE, x.unheard(0, 0, 2));
        due("unheard(0, 0, -1)", OUTSIDE, x.unheard(0, 0, -1));
        due("unheard(101, 0, 0)", OUTSIDE, x.unheard(101, 0, 0));
        due("unheard(-1, 0, 0)", OUTSIDE, x.unheard(-1, 0, 0));
        due("unheard(0, 101, 0)", OUTSIDE, x.unheard(0, 101, 0));
        due("unheard(0, -1, 0)", OUTSIDE, x.unheard(0, -1, 0));
    }

    private static void learns() {
        SwingLeaves x = Checks.houseOf(BUSY);
        String before = stateOf(x);
        int[] crashes = {1, 1, 2, 2, 3, 3, 4, 4, 5};
        for (int n = 1; n <= 9; n++) {
            due("learns(1, " + n + ")", crashes[n - 1], x.learns(1, n));
            due("learns(4, " + n + ")", n, x.learns(4, n));
        }
        due("learns(3, 1): by rule 1 he crashes", 1, x.learns(3, 1));
        due("learns(0, 1)", NONE, x.learns(0, 1));
        due("learns(2, 9)", NONE, x.learns(2, 9));
        due("learns(5, 0)", UNKNOWN, x.learns(5, 0));
        due("learns(0, 0)", OUTSIDE, x.learns(0, 0));
        due("learns(0, 10)", OUTSIDE, x.learns(0, 10));
        same("learns", before, x);
    }

    private static void book() {
        SwingLeaves x = Checks.houseOf(BUSY);
        due("judge() of no line", NONE, x.judge());
        due("tear() of none", 0, x.tear());
        due("write(4, 5)", 1, x.write(4, 5));
        due("write(1, 6)", 2, x.write(1, 6));
        due("write(0, 0)", 3, x.write(0, 0));
        due("judge()", NONE, x.judge());
        due("write(4, 4)", 4, x.write(4, 4));
        due("judge(): the line, not the waiter", 3, x.judge());
        x.kick(3, 9);
        due("judge() once he waits and follows", 0, x.judge());
        for (int n = 5; n <= 20; n++) {
            due("write", n, x.write(0, 0));
        }
        due("the 21st", FULL, x.write(0, 0));
        due("a wrong 21st", OUTSIDE, x.write(0, 7));
        due("nobody's 21st", UNKNOWN, x.write(5, 7));
        due("told(4)", 20, x.told(4));
        due("tear()", 20, x.tear());
        due("told(4) behind it", 0, x.told(4));
        due("judge() behind it", NONE, x.judge());
    }

    private static void seed() {
        SwingLeaves x = new SwingLeaves();
        due("seed(HIGH)", 0, x.seed(HIGH));
        due("seed(LOW)", OUTSIDE, x.seed(LOW));
        due("seed(5)", HIGH, x.seed(5));
        due("seed(0)", 5, x.seed(0));
    }

    private static void images() {
        SwingLeaves x = Checks.houseOf(BUSY);
        x.seed(5);
        due("keep(0)", 1, x.keep(0));
        String before = stateOf(x);
        x.come(0, 1);
        x.kick(0, 3);
        x.rule(0, 2);
        x.glass(true);
        x.noise(1);
        x.seed(6);
        due("keep(1)", 1, x.keep(1));
        String other = stateOf(x);
        x.drift(3);
        due("goBack(0)", 1, x.goBack(0));
        same("there and back to 0", before, x);
        due("goBack(1)", 1, x.goBack(1));
        same("there and back to 1", other, x);
        x.come(0, 44);
        due("goBack(1) twice", 1, x.goBack(1));
        same("there and back again", other, x);
    }

    private static void imagesAnew() {
        SwingLeaves x = Checks.houseOf(BUSY);
        x.keep(0);
        String before = stateOf(x);
        x.come(0, 1);
        x.keep(1);
        x.goBack(0);
        x.keep(1);
        x.goBack(1);
        same("an image kept anew", before, x);
        x.write(0, 0);
        x.goBack(0);
        due("the book is in no image", 1, x.told(4));
        due("keep(-1)", UNKNOWN, x.keep(-1));
        due("keep(2)", UNKNOWN, x.keep(2));
    }
}
