/**
 * Promise by promise what is refused: the last input that is allowed, the first that is not, which refusal goes ahead of
 * which; and each refused call is made in one of two like rooms, which then must answer alike to all that can be asked.
 */
final class RefusalsTest {
    private static final int NONE = SwingLeaves.NONE, UNKNOWN = SwingLeaves.UNKNOWN, OUTSIDE = SwingLeaves.OUTSIDE;
    private static final int NOT = SwingLeaves.NOT, FULL = SwingLeaves.FULL;

    /** Five waiters: 0, 2, 4 of the kitchen, 1, 3 of the dining room. */
    private static final String BUSY =
        "l0 3 4;l1 2 5;w0 10 6 9 2 0 0;w1 12 5 8 3 1 1;w0 18 4 7 1 0 0;w1 30 6 5 2 0 0;w0 33 9 4 4 1 1;";

    private static final Checks CHECKS = new Checks();

    /** The states in which calls are refused. */
    private enum State {
        NEW, RICH, FULL_TEXT, FULL_BOOK, NO_WAITERS, FAULTY, ONE_IMAGE
    }

    public static void main(String[] args) {
        theHouse();
        whatIsDone();
        theEvening();
        triedOnTheHouse();
        triedByOdds();
        books();
        images();
        severalAtOnce();
        noWaiters();
        farBelow();
        CHECKS.end();
    }

    private static Room roomIn(State state) {
        Room room = new Room();
        switch (state) {
            case NEW:
                return room;
            case FULL_TEXT:
                return room.feed("w1 7 3 20 2 1 1;".repeat(15) + "n3;g1;   x");
            case FULL_BOOK:
                room.tell(BUSY);
                for (int line = 0; line < 20; line++) {
                    room.call("write", line % 5, line % 7);
                }
                return room;
            case NO_WAITERS:
                room.tell("l1 7 0;g1;n4;");
                return room.after("seed(99)", "keep(1)").feed("w0");
            case FAULTY:
                room.tell(BUSY);
                room.after("write(0, 0)", "write(1, 3)", "keep(0)", "seed(3)");
                room.tell("n3; n3;");
                return room;
            case ONE_IMAGE:
                room.tell(BUSY);
                return room.after("keep(0)", "come(0, 15)", "seed(8)");
            default:
                room.tell(BUSY);
                room.after("seed(5)", "keep(0)", "come(0, 11)", "rule(2, 2)", "kick(3, 7)", "glass(true)", "noise(2)", "seed(6)");
                room.after("keep(1)", "come(4, 40)", "glass(false)", "noise(5)", "seed(7)");
                return room.after("write(0, 0)", "write(3, 0)", "write(4, 6)").feed("g1;n");
        }
    }

    /** All answers that tell of a state; what asks by changing it comes last. */
    private static String allOf(Room room) {
        StringBuilder s = new StringBuilder();
        readInto(s, room);
        room.after("rule(0, 1)", "rule(3, 1)");
        s.append(room.ask("judge()")).append(' ').append(room.ask("seed(1)")).append('\n');
        for (int i = 0; i < 2; i++) {
            s.append(room.call("goBack", i)).append(' ');
            readInto(s, room);
        }
        // The letters of the text are seen by what becomes of it.
        s.append(room.ask("feed(50)")).append(' ').append(room.ask("feed(59)")).append(' ');
        s.append(room.ask("house()")).append(' ').append(room.ask("fault()")).append(' ');
        for (int what = 0; what <= 4; what++) {
            s.append(room.call("told", what)).append(' ');
        }
        return s.toString();
    }

    private static void readInto(StringBuilder s, Room room) {
        s.append(room.ask("fault()")).append(' ').append(room.ask("judge()")).append(" told");
        for (int what = 0; what <= 10; what++) {
            s.append(' ').append(room.call("told", what));
        }
        for (int l = 0; l < 2; l++) {
            for (int what = 0; what <= 3; what++) {
                s.append(' ').append(room.call("leaf", l, what));
            }
        }
        int seed = room.ask("seed(0)");
        room.call("seed", seed);
        s.append(" seed ").append(seed).append(" waiters");
        int waiters = room.ask("told(0)");
        for (int w = 0; w < waiters; w++) {
            for (int what = 0; what <= 6; what++) {
                s.append(' ').append(room.call("waiter", w, what));
            }
        }
        s.append('\n');
    }

    private static void refused(State state, int refusal, String... calls) {
        String untouched = allOf(roomIn(state));
        for (String call : calls) {
            Room room = roomIn(state);
            CHECKS.due(state + ": " + call, refusal, room.ask(call));
            CHECKS.due(state + ": " + call + " changes nothing", 1, allOf(room).equals(untouched) ? 1 : 0);
        }
    }

    private static void taken(State state, String call, int answer) {
        CHECKS.due(state + ": " + call, answer, roomIn(state).ask(call));
    }

    // ---- promises 2 to 7

    private static void theHouse() {
        refused(State.RICH, OUTSIDE, "feed(-1)", "feed(256)", "feed(LOW)", "feed(HIGH)");
        taken(State.RICH, "feed(0)", 5);
        taken(State.RICH, "feed(255)", 5);
        refused(State.FULL_TEXT, FULL, "feed(0)", "feed(32)", "feed(255)");
        taken(State.FULL_TEXT, "told(1)", 250);
        CHECKS.due("the 250th letter", 250, new Room().feed(" ".repeat(249)).ask("feed(32)"));
        CHECKS.due("the 251st", FULL, new Room().feed(" ".repeat(250)).ask("feed(32)"));
        CHECKS.due("a letter behind a full text's house", 1, new Room().feed(" ".repeat(250)).after("house()").ask("feed(32)"));

        refused(State.RICH, OUTSIDE, "told(-1)", "told(11)", "told(LOW)", "told(HIGH)");
        taken(State.RICH, "told(0)", 5);
        taken(State.ONE_IMAGE, "told(10)", 45);

        refused(State.RICH, UNKNOWN, "leaf(-1, 0)", "leaf(2, 0)", "leaf(LOW, 3)", "leaf(HIGH, 3)");
        refused(State.RICH, OUTSIDE, "leaf(0, -1)", "leaf(1, 4)", "leaf(0, LOW)", "leaf(1, HIGH)");
        taken(State.RICH, "leaf(0, 0)", 3);
        taken(State.ONE_IMAGE, "leaf(1, 3)", 2);

        refused(State.RICH, UNKNOWN, "waiter(-1, 0)", "waiter(5, 0)", "waiter(LOW, 6)", "waiter(HIGH, 6)");
        refused(State.RICH, OUTSIDE, "waiter(0, -1)", "waiter(4, 7)", "waiter(0, LOW)", "waiter(4, HIGH)");
        taken(State.RICH, "waiter(0, 0)", 0);
        taken(State.RICH, "waiter(4, 6)", 1);
        // A sixth one is there only if he was told.
        CHECKS.due("waiter(5, 1) of six", 77, Room.of(BUSY + "w0 77 1 0 1 0 0;").ask("waiter(5, 1)"));
        CHECKS.due("waiter(6, 1) of six", UNKNOWN, Room.of(BUSY + "w0 77 1 0 1 0 0;").ask("waiter(6, 1)"));
        // Waiters of an earlier house are gone.
        Room fewer = Room.of(BUSY);
        CHECKS.due("a house of one", 1, fewer.tell("w1 3 1 0 1 0 0;"));
        CHECKS.due("waiter(0, 1)", 3, fewer.ask("waiter(0, 1)"));
        CHECKS.due("waiter(1, 1)", UNKNOWN, fewer.ask("waiter(1, 1)"));
    }

    // ---- promises 8 to 13

    private static void bounds(String name, int w, int was, int least, int most) {
        refused(State.RICH, UNKNOWN, name + "(-1, " + least + ")", name + "(5, " + most + ")", name + "(LOW, " + least + ")",
            name + "(HIGH, " + most + ")");
        refused(State.RICH, OUTSIDE, name + "(0, " + (least - 1) + ")", name + "(4, " + (most + 1) + ")", name + "(0, LOW)",
            name + "(4, HIGH)");
        Room room = roomIn(State.RICH);
        CHECKS.due(name + " to the least", was, room.call(name, w, least));
        CHECKS.due(name + " to the most", least, room.call(name, w, most));
        CHECKS.due(name + " was the most", most, room.call(name, w, least));
    }

    private static void whatIsDone() {
        bounds("come", 0, 11, 0, 999);
        bounds("come", 4, 40, 0, 999);
        bounds("rule", 0, 0, 0, 2);
        bounds("rule", 4, 1, 0, 2);
        bounds("kick", 0, 2, 1, 9);
        bounds("kick", 4, 4, 1, 9);

        refused(State.RICH, OUTSIDE, "noise(-1)", "noise(10)", "noise(LOW)", "noise(HIGH)");
        Room room = roomIn(State.RICH);
        CHECKS.due("noise(0)", 5, room.ask("noise(0)"));
        CHECKS.due("noise(9)", 0, room.ask("noise(9)"));
        CHECKS.due("noise(9) again", 9, room.ask("noise(9)"));
        CHECKS.due("glass(true)", 0, room.ask("glass(true)"));
        CHECKS.due("glass(true) again", 1, room.ask("glass(true)"));
        CHECKS.due("glass(false)", 1, room.ask("glass(false)"));
        CHECKS.due("glass(false) again", 0, room.ask("glass(false)"));

        refused(State.RICH, OUTSIDE, "drift(0)", "drift(100)", "drift(-1)", "drift(LOW)", "drift(HIGH)");
        refused(State.NEW, NOT, "drift(1)", "drift(99)");
        refused(State.NO_WAITERS, NOT, "drift(1)", "drift(99)");
        driftAt(1);
        driftAt(99);
    }

    /** As many evenings as asked for: each draws once for each waiter and once for the window. */
    private static void driftAt(int n) {
        Room room = roomIn(State.RICH);
        room.call("drift", n);
        long seed = 7;
        for (int draw = 0; draw < n * 6; draw++) {
            seed = (seed * 1103515245L + 12345L) % 2147483648L;
        }
        CHECKS.due("the seed behind drift(" + n + ")", seed, room.ask("seed(0)"));
    }

    // ---- promises 14 and 15

    private static void theEvening() {
        refused(State.RICH, UNKNOWN, "pass(-1, 0)", "pass(5, 0)", "pass(LOW, 5)", "pass(HIGH, 5)");
        refused(State.RICH, OUTSIDE, "pass(0, -1)", "pass(4, 6)", "pass(0, LOW)", "pass(4, HIGH)");
        taken(State.ONE_IMAGE, "pass(0, 0)", 6);
        taken(State.ONE_IMAGE, "pass(4, 5)", 1);
        refused(State.RICH, UNKNOWN, "leafAt(-1, 0)", "leafAt(2, 0)", "leafAt(LOW, 9999)", "leafAt(HIGH, 9999)");
        refused(State.RICH, OUTSIDE, "leafAt(0, -1)", "leafAt(1, 10000)", "leafAt(0, LOW)", "leafAt(1, HIGH)");
        taken(State.RICH, "leafAt(0, 0)", 0);
        taken(State.RICH, "leafAt(1, 9999)", 0);
        CHECKS.due("leafAt(0, 0), busy", 1, Room.of("w0 0 1 0 1 0 0;").ask("leafAt(0, 0)"));
    }

    // ---- promises 16 to 23 and 27

    private static void triedOnTheHouse() {
        refused(State.RICH, OUTSIDE, "all(-1)", "all(3)", "all(LOW)", "all(HIGH)");
        taken(State.FULL_BOOK, "all(0)", 70);
        taken(State.FULL_BOOK, "all(2)", 70);
        refused(State.RICH, UNKNOWN, "best(-2)", "best(5)", "best(LOW)", "best(HIGH)");
        taken(State.FULL_BOOK, "best(NONE)", 0);
        taken(State.FULL_BOOK, "best(0)", 1);
        taken(State.FULL_BOOK, "best(4)", 0);
        refused(State.RICH, UNKNOWN, "bestKick(-1, 0)", "bestKick(5, 1)", "bestKick(LOW, 0)", "bestKick(HIGH, 1)");
        refused(State.RICH, OUTSIDE, "bestKick(0, -1)", "bestKick(4, 2)", "bestKick(0, LOW)", "bestKick(4, HIGH)");
        taken(State.FULL_BOOK, "bestKick(0, 0)", 1);
        taken(State.FULL_BOOK, "bestKick(4, 1)", 197);
        refused(State.RICH, OUTSIDE, "change(-1, 0, 0)", "change(3, 0, 0)", "change(0, -1, 1)", "change(0, 3, 1)",
            "change(0, 0, -1)", "change(2, 2, 2)", "change(LOW, 0, 0)", "change(0, HIGH, 0)", "change(0, 0, LOW)");
        taken(State.FULL_BOOK, "change(0, 0, 0)", 0);
        taken(State.FULL_BOOK, "change(2, 2, 1)", 70);
        refused(State.RICH, OUTSIDE, "worth(-1, 1)", "worth(2, 1)", "worth(0, -1)", "worth(1, 1000)", "worth(LOW, 0)",
            "worth(0, HIGH)");
        taken(State.FULL_BOOK, "worth(0, 0)", 0);
        taken(State.FULL_BOOK, "worth(0, 999)", 66933);
        taken(State.FULL_BOOK, "worth(1, 999)", 0);
        refused(State.RICH, OUTSIDE, "apart(-1, 0)", "apart(2, 0)", "apart(0, -1)", "apart(1, 51)", "apart(LOW, 0)",
            "apart(1, HIGH)");
        taken(State.FULL_BOOK, "apart(0, 0)", 84);
        taken(State.FULL_BOOK, "apart(1, 50)", 154);
        refused(State.RICH, OUTSIDE, "order(-1, 0)", "order(2, 0)", "order(LOW, NONE)", "order(HIGH, NONE)");
        taken(State.FULL_BOOK, "order(0, 3)", NONE);
        taken(State.FULL_BOOK, "order(1, 2)", NONE);
        refused(State.RICH, UNKNOWN, "rests(-1, 0)", "rests(5, 0)", "rests(0, -1)", "rests(1, 5)", "rests(LOW, HIGH)");
        refused(State.RICH, UNKNOWN, "rests(0, 0)", "rests(4, 4)", "rests(5, 5)", "rests(-1, -1)");
        refused(State.RICH, NOT, "rests(0, 2)", "rests(4, 0)", "rests(1, 3)", "rests(3, 1)");
        taken(State.RICH, "rests(0, 1)", 6);
        taken(State.RICH, "rests(3, 4)", 6);
        refused(State.RICH, UNKNOWN, "learns(-1, 1)", "learns(5, 9)", "learns(LOW, 1)", "learns(HIGH, 9)");
        refused(State.RICH, OUTSIDE, "learns(0, 0)", "learns(4, 10)", "learns(0, LOW)", "learns(4, HIGH)");
        taken(State.FULL_BOOK, "learns(0, 1)", NONE);
        taken(State.FULL_BOOK, "learns(4, 9)", 9);
    }

    // ---- promises 24 to 26

    private static void triedByOdds() {
        refused(State.RICH, OUTSIDE, "stack(-1)", "stack(101)", "stack(LOW)", "stack(HIGH)");
        taken(State.RICH, "stack(0)", 9);
        taken(State.RICH, "stack(100)", 1);
        refused(State.RICH, OUTSIDE, "until(-1, 0)", "until(1001, 0)", "until(0, -1)", "until(0, 101)", "until(LOW, 0)",
            "until(HIGH, 0)", "until(0, LOW)", "until(0, HIGH)");
        taken(State.RICH, "until(0, 100)", 0);
        taken(State.RICH, "until(1000, 0)", 1);
        refused(State.RICH, OUTSIDE, "unheard(-1, 1, 0)", "unheard(101, 1, 0)", "unheard(1, -1, 0)", "unheard(1, 101, 0)",
            "unheard(1, 1, -1)", "unheard(1, 1, 2)", "unheard(LOW, 1, 0)", "unheard(1, HIGH, 0)", "unheard(1, 1, LOW)");
        refused(State.RICH, NOT, "unheard(0, 0, 0)", "unheard(0, 0, 1)");
        taken(State.RICH, "unheard(0, 1, 1)", 1);
        taken(State.RICH, "unheard(1, 0, 0)", 1);
        taken(State.RICH, "unheard(0, 100, 0)", 0);
        taken(State.RICH, "unheard(100, 0, 1)", 1);
        taken(State.RICH, "unheard(100, 100, 0)", 1);
    }

    // ---- promises 28 to 31

    private static void books() {
        refused(State.RICH, UNKNOWN, "write(-1, 0)", "write(5, 6)", "write(LOW, 0)", "write(HIGH, 6)");
        refused(State.RICH, OUTSIDE, "write(0, -1)", "write(4, 7)", "write(0, LOW)", "write(4, HIGH)");
        taken(State.RICH, "write(0, 0)", 4);
        taken(State.RICH, "write(4, 6)", 4);
        refused(State.FULL_BOOK, FULL, "write(0, 0)", "write(4, 6)");
        Room room = roomIn(State.FULL_BOOK);
        CHECKS.due("tear() of a full book", 20, room.ask("tear()"));
        CHECKS.due("tear() of an empty one", 0, room.ask("tear()"));
        for (int line = 1; line <= 20; line++) {
            CHECKS.due("line " + line, line, room.ask("write(4, 6)"));
        }
        CHECKS.due("line 21", FULL, room.ask("write(4, 6)"));

        refused(State.RICH, OUTSIDE, "seed(-1)", "seed(LOW)");
        CHECKS.due("seed(HIGH)", 7, roomIn(State.RICH).ask("seed(HIGH)"));
        CHECKS.due("the seed was the greatest", Integer.MAX_VALUE, roomIn(State.RICH).after("seed(HIGH)").ask("seed(0)"));
        CHECKS.due("the seed was 0", 0, roomIn(State.RICH).after("seed(0)").ask("seed(0)"));
    }

    // ---- promises 32 and 33

    private static void images() {
        refused(State.RICH, UNKNOWN, "keep(-1)", "keep(2)", "keep(LOW)", "keep(HIGH)");
        refused(State.RICH, UNKNOWN, "goBack(-1)", "goBack(2)", "goBack(LOW)", "goBack(HIGH)");
        taken(State.RICH, "keep(0)", 1);
        taken(State.RICH, "keep(1)", 1);
        taken(State.RICH, "goBack(0)", 1);
        taken(State.RICH, "goBack(1)", 1);
        refused(State.NEW, NOT, "goBack(0)", "goBack(1)");
        refused(State.ONE_IMAGE, NOT, "goBack(1)");
        refused(State.NO_WAITERS, NOT, "goBack(0)");
        taken(State.ONE_IMAGE, "goBack(0)", 1);
        taken(State.NO_WAITERS, "goBack(1)", 1);
    }

    /** "REFUSALS, of several the first in this order: UNKNOWN, OUTSIDE, NOT, FULL". */
    private static void severalAtOnce() {
        refused(State.RICH, UNKNOWN, "leaf(2, 4)", "leaf(-1, -1)", "waiter(5, 7)", "waiter(-1, -1)", "come(5, 1000)",
            "come(-1, -1)", "rule(5, 3)", "rule(-1, -1)", "kick(5, 10)", "kick(-1, 0)", "pass(5, 6)", "pass(-1, -1)",
            "leafAt(2, 10000)", "leafAt(-1, -1)", "bestKick(5, 2)", "bestKick(-1, -1)", "learns(5, 10)", "learns(-1, 0)",
            "write(5, 7)", "write(-1, -1)");
        // OUTSIDE ahead of NOT.
        refused(State.NEW, OUTSIDE, "drift(0)", "drift(100)", "drift(LOW)");
        refused(State.NO_WAITERS, OUTSIDE, "drift(0)", "drift(100)");
        refused(State.RICH, OUTSIDE, "unheard(0, 0, 2)", "unheard(0, 0, -1)");
        // UNKNOWN ahead of NOT: there is no image 2, kept or not; one twice is of one side, too.
        refused(State.NEW, UNKNOWN, "goBack(2)", "goBack(-1)");
        refused(State.RICH, UNKNOWN, "rests(2, 2)");
        // All ahead of FULL.
        refused(State.FULL_TEXT, OUTSIDE, "feed(-1)", "feed(256)");
        refused(State.FULL_BOOK, OUTSIDE, "write(0, 7)", "write(4, -1)");
        refused(State.FULL_BOOK, UNKNOWN, "write(5, 0)", "write(-1, 6)", "write(5, 7)", "write(-1, -1)");
    }

    /** "A new object: No WAITERS; both LEAVES as untold"; a house without 'w' is no other. */
    private static void noWaiters() {
        String[] unknown = {"waiter(0, 0)", "come(0, 0)", "rule(0, 0)", "kick(0, 1)", "pass(0, 0)", "best(0)", "bestKick(0, 0)",
            "rests(0, 1)", "learns(0, 1)", "write(0, 0)", "waiter(0, 9)", "write(0, 9)"};
        refused(State.NEW, UNKNOWN, unknown);
        refused(State.NO_WAITERS, UNKNOWN, unknown);
        State[] empty = {State.NEW, State.NO_WAITERS};
        for (State state : empty) {
            for (int what = 5; what <= 10; what++) {
                taken(state, "told(" + what + ")", 0);
            }
            taken(state, "told(0)", 0);
            taken(state, "leaf(0, 0)", 2);
            taken(state, "leaf(0, 1)", 3);
            taken(state, "leaf(0, 2)", 0);
            taken(state, "leaf(1, 3)", 0);
            taken(state, "leafAt(1, 0)", 0);
            taken(state, "all(1)", 0);
            taken(state, "best(NONE)", 0);
            taken(state, "change(2, 1, 0)", 0);
            taken(state, "change(2, 1, 1)", 0);
            taken(state, "worth(0, 999)", 0);
            taken(state, "worth(1, 999)", 0);
            taken(state, "apart(1, 50)", 0);
            taken(state, "order(1, NONE)", 0);
            taken(state, "order(0, 0)", NONE);
            taken(state, "judge()", NONE);
            taken(state, "tear()", 0);
            taken(state, "fault()", NONE);
            taken(state, "keep(0)", 1);
        }
        taken(State.NEW, "told(1)", 0);
        taken(State.NEW, "told(2)", 0);
        taken(State.NEW, "told(3)", 9);
        taken(State.NEW, "told(4)", 0);
        taken(State.NEW, "leaf(1, 0)", 2);
        taken(State.NEW, "leaf(1, 1)", 3);
        taken(State.NEW, "seed(0)", 0);
        taken(State.NEW, "house()", 0);
    }

    /** "They are far below all that is counted": the deepest answer that is counted. */
    private static void farBelow() {
        Room waits = Room.of("w0 0 30 0 1 0 0;w1 0 30 0 1 1 0;w1 1 30 0 1 1 0;w1 2 30 0 1 1 0;w1 3 30 0 1 1 0;w1 4 30 0 1 1 0;");
        CHECKS.due("a window that costs 140 tenths in each of 999", -999 * 140, waits.ask("worth(0, 999)"));
        CHECKS.due("UNKNOWN", -1000000001, UNKNOWN);
        CHECKS.due("OUTSIDE", -1000000002, OUTSIDE);
        CHECKS.due("NOT", -1000000003, NOT);
        CHECKS.due("FULL", -1000000004, FULL);
    }
}
