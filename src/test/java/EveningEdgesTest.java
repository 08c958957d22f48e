/**
 * An evening (part 2 of the terms): from which tenth on and up to which one, one tenth ahead of each edge and at it. Unless
 * a text tells it, leaves hold for 2 tenths by each of a kick and come back in 3.
 */
final class EveningEdgesTest {
    private static final int PLAIN = 0, FOLLOWED = 1, WRONG = 2, CALLED = 3, WAITED = 4, STRUCK = 5, CRASHED = 6;
    private static final int SHUT = 0, BUSY = 1, OPEN = 2, BACK = 3;

    private static final Checks CHECKS = new Checks();

    public static void main(String[] args) {
        asTheyCome();
        busyUpTo();
        overAtTheTenth();
        lesserToGreater();
        goesLater();
        openUpTo();
        backUpTo();
        noBack();
        hardestKick();
        inPlaceOfEarlier();
        busyAheadOfOpen();
        openAheadOfBack();
        ownLeaf();
        ruleTwo();
        waitsTill();
        heard();
        callsOrWindow();
        goesOnThen();
        crashes();
        crashedInto();
        twentyTenths();
        kinds();
        counts();
        leafAtTheEnd();
        lastTenths();
        CHECKS.end();
    }

    private static Room kindsOf(String text, int... want) {
        Room room = Room.of(text);
        for (int w = 0; w < want.length; w++) {
            CHECKS.due("KIND of " + w + " in " + text, want[w], room.call("pass", w, 0));
        }
        return room;
    }

    private static void asks(Room room, String call, int answer, String why) {
        CHECKS.due(why + ": " + call, answer, room.ask(call));
    }

    /** From this tenth on, one behind the other, the leaf does this. */
    private static void does(Room room, int l, int tenth, int... want) {
        for (int i = 0; i < want.length; i++) {
            CHECKS.due("leafAt(" + l + ", " + (tenth + i) + ")", want[i], room.call("leafAt", l, tenth + i));
        }
    }

    /** "WAITERS as they come (of like ones the least first)": who is first kicks, the other one follows. */
    private static void asTheyCome() {
        kindsOf("w0 9 3 1 1 0 0;w0 9 3 1 1 0 0;w0 9 3 1 1 0 0;", PLAIN, FOLLOWED, FOLLOWED);
        kindsOf("w0 9 3 1 1 0 0;w0 9 3 1 1 0 0;w0 8 3 1 1 0 0;", FOLLOWED, FOLLOWED, PLAIN);
        kindsOf("w0 10 3 1 1 0 0;w0 9 3 1 1 0 0;", FOLLOWED, PLAIN);
        kindsOf("w0 5 9 1 1 0 0;w0 4 9 1 1 0 0;w0 3 9 1 1 0 0;w0 2 9 1 1 0 0;w0 1 9 1 1 0 0;w0 0 9 1 1 0 0;",
            FOLLOWED, FOLLOWED, FOLLOWED, FOLLOWED, FOLLOWED, PLAIN);
    }

    /** "A LEAF is BUSY for a side from a TENTH up to another one (that not counted)". */
    private static void busyUpTo() {
        kindsOf("l0 1 0;w0 10 5 1 1 0 0;w1 10 1 1 1 1 0;", CRASHED, CRASHED);
        kindsOf("l0 1 0;w0 10 5 1 1 0 0;w1 14 1 1 1 1 0;", CRASHED, CRASHED);
        kindsOf("l0 1 0;w0 10 5 1 1 0 0;w1 15 1 1 1 1 0;", PLAIN, WRONG);
        kindsOf("l0 1 0;w0 10 5 1 1 0 0;w1 9 1 1 1 1 0;", PLAIN, WRONG);
        kindsOf("l0 1 0;w0 10 1 1 1 0 0;w1 11 1 1 1 1 0;", PLAIN, WRONG);
        kindsOf("l0 1 0;w0 10 30 1 1 0 0;w1 39 1 1 1 1 0;", CRASHED, CRASHED);
        kindsOf("l0 1 0;w0 10 30 1 1 0 0;w1 40 1 1 1 1 0;", PLAIN, WRONG);
        does(Room.of("l0 1 0;w0 10 5 1 1 0 0;"), 0, 9, SHUT, BUSY, BUSY, BUSY, BUSY, BUSY, SHUT);
        // Leaf 1, by which nobody goes, is not.
        does(Room.of("l0 1 0;w0 10 5 1 1 0 0;"), 1, 9, SHUT, SHUT);
    }

    /** "a pass from t to u makes it from t to u, if it was over at t (or there was none)". */
    private static void overAtTheTenth() {
        // Over at 5, at which the second one comes: a while of its own.
        does(Room.of("l0 1 0;w0 0 5 1 1 0 0;w0 5 3 1 1 0 0;"), 0, 0, SHUT, SHUT, SHUT, SHUT, SHUT, BUSY, BUSY, BUSY, SHUT);
        // Not over at 4: one while for both.
        does(Room.of("l0 1 0;w0 0 5 1 1 0 0;w0 4 3 1 1 0 0;"), 0, 0, BUSY, BUSY, BUSY, BUSY, BUSY, BUSY, BUSY, SHUT);
        // Over long ago.
        does(Room.of("l0 1 0;w0 0 5 1 1 0 0;w0 9 1 1 1 0 0;"), 0, 4, SHUT, SHUT, SHUT, SHUT, SHUT, BUSY, SHUT);
    }

    /** "else from the lesser to the greater of both". */
    private static void lesserToGreater() {
        // The second one's end is the lesser one.
        String ahead = "l0 1 0;w0 0 9 1 1 0 0;w0 1 2 1 1 0 0;w1 ";
        kindsOf(ahead + "8 1 1 1 1 0;", PLAIN, CRASHED, CRASHED);
        kindsOf(ahead + "9 1 1 1 1 0;", PLAIN, FOLLOWED, WRONG);
        // The second one's end is the greater one.
        String behind = "l0 1 0;w0 0 9 1 1 0 0;w0 8 9 1 1 0 0;w1 ";
        kindsOf(behind + "16 1 1 1 1 0;", PLAIN, CRASHED, CRASHED);
        kindsOf(behind + "17 1 1 1 1 0;", PLAIN, FOLLOWED, WRONG);
    }

    /** "All by those who were looked at so far, even if they go later". */
    private static void goesLater() {
        // 1 waits from 1 to 10, 2 from 9 to 10: what 1 does from 10 on does not hold him up.
        Room room = kindsOf("l0 1 0;g1;w0 0 10 1 1 0 0;w1 1 4 1 1 1 0;w1 9 3 1 1 1 0;", PLAIN, WAITED, WAITED);
        asks(room, "pass(1, 1)", 10, "as the leaf is free");
        asks(room, "pass(2, 1)", 10, "both follow in one swing");
        asks(room, "told(10)", 14, "the greater end");
        // 1 waits till 10 and goes up to 12: for side 0 it is busy from 10 on, so one of side 1 may still follow at 9.
        String late = "l0 9 9;g1;w1 0 10 1 9 1 0;w0 1 2 1 1 0 0;w1 ";
        kindsOf(late + "9 1 1 1 1 0;", WRONG, WAITED, FOLLOWED);
        kindsOf(late + "10 1 1 1 1 0;", WRONG, WAITED, WAITED);
        kindsOf(late + "11 1 1 1 1 0;", WRONG, WAITED, WAITED);
        kindsOf(late + "12 1 1 1 1 0;", WRONG, WAITED, FOLLOWED);
        // 1 calls and goes from 10 to 40; 2 does not call and crashes at 5: from the lesser to the greater, 5 to 40.
        String crash = "l0 1 0;w0 0 10 1 1 0 0;w1 1 30 1 1 1 1;w1 5 1 1 1 1 0;";
        does(Room.of(crash + "w0 90 1 1 1 1 0;"), 0, 38, BUSY, BUSY, SHUT);
        kindsOf(crash + "w0 39 1 1 1 0 0;", CRASHED, CALLED, CRASHED, CRASHED);
        kindsOf(crash + "w0 40 1 1 1 0 0;", CRASHED, CALLED, CRASHED, PLAIN);
        kindsOf(crash + "w0 5 1 1 1 0 0;", CRASHED, CALLED, CRASHED, CRASHED);
    }

    /** "the LEAF is OPEN from t up to t and K times H (that TENTH not counted)". */
    private static void openUpTo() {
        String ahead = "l0 3 1;w0 10 1 1 4 0 0;w0 ";
        kindsOf(ahead + "11 1 1 1 0 0;", PLAIN, FOLLOWED);
        kindsOf(ahead + "21 1 1 1 0 0;", PLAIN, FOLLOWED);
        kindsOf(ahead + "22 1 1 1 0 0;", PLAIN, STRUCK);
        does(Room.of("l0 3 1;w0 10 1 1 4 0 0;"), 0, 10, BUSY, OPEN);
        does(Room.of("l0 3 1;w0 10 1 1 4 0 0;"), 0, 21, OPEN, BACK, SHUT);
        // One of the other side follows as well.
        kindsOf("l0 3 1;w0 10 1 1 4 0 0;w1 21 1 1 1 1 0;", PLAIN, FOLLOWED);
        kindsOf("l0 3 1;w0 10 1 1 4 0 0;w1 22 1 1 1 1 0;", PLAIN, STRUCK);
    }

    /** "and comes BACK for B tenths from then on". */
    private static void backUpTo() {
        String ahead = "l0 3 4;w0 10 1 1 1 0 0;w0 ";
        kindsOf(ahead + "12 1 1 1 0 0;", PLAIN, FOLLOWED);
        kindsOf(ahead + "13 1 1 1 0 0;", PLAIN, STRUCK);
        kindsOf(ahead + "16 1 1 1 0 0;", PLAIN, STRUCK);
        kindsOf(ahead + "17 1 1 1 0 0;", PLAIN, PLAIN);
        does(Room.of("l0 3 4;w0 10 1 1 1 0 0;"), 0, 12, OPEN, BACK, BACK, BACK, BACK, SHUT);
        // Who is struck gives it a kick, too.
        asks(Room.of(ahead + "13 1 1 1 0 0;"), "leaf(0, 3)", 2, "struck");
        does(Room.of(ahead + "13 1 1 1 0 0;"), 0, 13, BUSY, OPEN, OPEN, BACK, BACK, BACK, BACK, SHUT);
    }

    /** B 0: it is shut at once; B 9: it comes back for nine. */
    private static void noBack() {
        kindsOf("l0 2 0;w0 10 1 1 1 0 0;w0 11 1 1 1 0 0;", PLAIN, FOLLOWED);
        kindsOf("l0 2 0;w0 10 1 1 1 0 0;w0 12 1 1 1 0 0;", PLAIN, PLAIN);
        does(Room.of("l0 2 0;w0 10 1 1 1 0 0;"), 0, 10, BUSY, OPEN, SHUT);
        kindsOf("l0 1 9;w0 10 1 1 1 0 0;w0 19 1 1 1 0 0;", PLAIN, STRUCK);
        kindsOf("l0 1 9;w0 10 1 1 1 0 0;w0 20 1 1 1 0 0;", PLAIN, PLAIN);
    }

    /** The hardest kick on the leaf that holds longest: 81 tenths, and 9 behind them. */
    private static void hardestKick() {
        Room room = Room.of("l1 9 9;w1 0 1 1 9 0 0;");
        does(room, 1, 80, OPEN, BACK);
        does(room, 1, 89, BACK, SHUT);
        // The least: one tenth, in which it is busy.
        does(Room.of("l1 1 1;w1 0 1 1 1 0 0;"), 1, 0, BUSY, BACK, SHUT);
    }

    /** "(in place of what an earlier KICK did)". */
    private static void inPlaceOfEarlier() {
        // Kicks at 0 and, struck, at 3: of the first nothing is left.
        Room room = Room.of("l0 3 9;w0 0 1 1 1 0 0;w0 3 1 1 1 0 0;");
        does(room, 0, 0, SHUT, SHUT, SHUT, BUSY, OPEN, OPEN, BACK);
        does(room, 0, 14, BACK, SHUT);
        // The second one kicks at 9, for which he waited; the third, looked at behind him, follows at 2.
        Room late = kindsOf("l0 1 0;g1;w0 0 9 1 1 0 0;w1 1 3 1 9 1 0;w0 2 1 1 1 0 0;", PLAIN, WAITED, FOLLOWED);
        does(late, 0, 8, BUSY, BUSY, BUSY, BUSY, OPEN);
        does(late, 0, 17, OPEN, SHUT);
    }

    /** "BUSY goes ahead of OPEN", for those of one's own side, too: he follows, though the leaf would come back. */
    private static void busyAheadOfOpen() {
        // Open up to 2, back up to 5, busy up to 9.
        String ahead = "w0 0 9 1 1 0 0;w0 ";
        kindsOf(ahead + "2 1 1 1 0 0;", PLAIN, FOLLOWED);
        kindsOf(ahead + "8 1 1 1 0 0;", PLAIN, FOLLOWED);
        kindsOf(ahead + "9 1 1 1 0 0;", PLAIN, PLAIN);
        // Busy for the other side and open: he does not follow.
        kindsOf("w0 0 9 1 9 0 0;w1 8 1 1 1 1 0;", CRASHED, CRASHED);
        kindsOf("w0 0 9 1 9 0 0;w1 9 1 1 1 1 0;", PLAIN, FOLLOWED);
        does(Room.of("w0 0 9 1 9 0 0;"), 0, 8, BUSY, OPEN);
        does(Room.of("w0 0 4 1 1 0 0;"), 0, 3, BUSY, BACK, SHUT);
    }

    /** "that ahead of BACK": in the tenth at which it is open no more it comes back, not one ahead. */
    private static void openAheadOfBack() {
        does(Room.of("w0 0 1 1 2 0 0;"), 0, 3, OPEN, BACK);
        kindsOf("w0 0 1 1 2 0 0;w0 3 1 1 1 0 0;", PLAIN, FOLLOWED);
        kindsOf("w0 0 1 1 2 0 0;w0 4 1 1 1 0 0;", PLAIN, STRUCK);
    }

    /** "Side 0's own LEAF is 0, side 1's is 1"; rule 0 his own, rule 1 the other one. */
    private static void ownLeaf() {
        int[][] leaves = {{0, 1}, {1, 0}};
        for (int side = 0; side < 2; side++) {
            for (int rule = 0; rule < 2; rule++) {
                Room room = Room.of("w" + side + " 0 1 1 1 " + rule + " 0;");
                asks(room, "pass(0, 3)", leaves[side][rule], "side " + side + ", rule " + rule);
                asks(room, "pass(0, 0)", rule == 0 ? PLAIN : WRONG, "side " + side + ", rule " + rule);
            }
        }
    }

    /** "2 his own, if it is not BUSY for the other side at that TENTH, else the other one, if that is not so, else his own". */
    private static void ruleTwo() {
        String own = "l0 1 0;w1 5 5 1 1 1 0;w0 ";
        asks(Room.of(own + "4 1 1 1 2 0;"), "pass(1, 3)", 0, "not busy yet");
        asks(Room.of(own + "5 1 1 1 2 0;"), "pass(1, 3)", 1, "busy from then on");
        asks(Room.of(own + "9 1 1 1 2 0;"), "pass(1, 3)", 1, "still busy");
        asks(Room.of(own + "10 1 1 1 2 0;"), "pass(1, 3)", 0, "over");
        // The other one is busy up to 8, his own up to 10.
        String both = "l0 1 0;l1 1 0;w1 5 5 1 1 1 0;w1 5 3 1 1 0 0;w0 ";
        asks(Room.of(both + "7 1 1 1 2 0;"), "pass(2, 3)", 0, "both busy");
        asks(Room.of(both + "8 1 1 1 2 0;"), "pass(2, 3)", 1, "the other one is over");
        // Busy for his own side does not count, in neither.
        asks(Room.of("w0 5 5 1 1 0 0;w0 6 1 1 1 2 0;"), "pass(1, 3)", 0, "his own side in his own");
        asks(Room.of("w1 5 5 1 1 1 0;w0 5 5 1 1 1 0;w0 6 1 1 1 2 0;"), "pass(2, 3)", 1, "his own side in the other one");
        // The other side's way round.
        asks(Room.of("w0 5 5 1 1 1 0;w1 9 1 1 1 2 0;"), "pass(1, 3)", 0, "side 1, its own is busy");
        asks(Room.of("w0 5 5 1 1 1 0;w1 10 1 1 1 2 0;"), "pass(1, 3)", 1, "side 1, its own is over");
    }

    /** "with a clear WINDOW he WAITS till it is not BUSY for it". */
    private static void waitsTill() {
        String ahead = "g1;l0 1 0;w0 10 5 1 1 0 0;w1 ";
        Room first = kindsOf(ahead + "10 1 1 1 1 0;", PLAIN, WAITED);
        asks(first, "pass(1, 4)", 5, "from the first tenth");
        asks(first, "pass(1, 1)", 15, "from the first tenth");
        Room last = kindsOf(ahead + "14 1 1 1 1 0;", PLAIN, WAITED);
        asks(last, "pass(1, 4)", 1, "from the last tenth");
        asks(last, "pass(1, 2)", 16, "from the last tenth");
        Room free = kindsOf(ahead + "15 1 1 1 1 0;", PLAIN, WRONG);
        asks(free, "pass(1, 4)", 0, "it is over");
        asks(free, "told(5)", 0, "it is over");
        // He waits by the leaf of his rule, though his own is free.
        asks(first, "pass(1, 3)", 0, "he waits there");
    }

    /** "a CALL is heard, if fewer than N others come at the TENTHS from 20 ahead of his C up to 1 ahead of it". */
    private static void heard() {
        String caller = "w0 30 30 1 1 0 0;w1 31 1 1 1 1 1;";
        kindsOf("n0;" + caller, CRASHED, CRASHED);
        kindsOf("n1;" + caller, CRASHED, CRASHED);
        kindsOf("n2;" + caller, PLAIN, CALLED);
        // Who comes 1 ahead counts, at the same tenth not; 20 ahead counts, 21 not.
        kindsOf("n1;w0 30 30 1 1 0 0;w1 30 1 1 1 1 1;", PLAIN, CALLED);
        kindsOf("n1;w0 30 30 1 1 0 0;w1 50 1 1 1 1 1;", CRASHED, CRASHED);
        kindsOf("n1;w0 30 30 1 1 0 0;w1 51 1 1 1 1 1;", PLAIN, CALLED);
        // None is heard with noise 0, though nobody comes ahead.
        kindsOf("n0;w0 30 30 1 1 0 0;w1 30 1 1 1 1 1;", CRASHED, CRASHED);
        // Others of both sides and by both leaves count; who comes later does not, he himself does not.
        String many = "w0 30 30 1 1 0 0;w1 20 1 1 1 0 0;w0 12 1 1 1 0 0;w1 31 1 1 1 1 1;w1 32 1 1 1 0 0;";
        kindsOf("n3;" + many, CRASHED, PLAIN, PLAIN, CRASHED, PLAIN);
        kindsOf("n4;" + many, PLAIN, PLAIN, PLAIN, CALLED, PLAIN);
        // Five others are all there can be: heard with noise 6, and untold.
        String five = "w0 5 30 1 1 0 0;w0 6 1 1 1 0 0;w0 7 1 1 1 0 0;w0 8 1 1 1 0 0;w0 9 1 1 1 0 0;w1 10 1 1 1 1 1;";
        kindsOf("n5;" + five, PLAIN, FOLLOWED, FOLLOWED, FOLLOWED, CRASHED, CRASHED);
        kindsOf("n6;" + five, PLAIN, FOLLOWED, FOLLOWED, FOLLOWED, FOLLOWED, CALLED);
        kindsOf(five, PLAIN, FOLLOWED, FOLLOWED, FOLLOWED, FOLLOWED, CALLED);
    }

    /** "with a clear WINDOW he WAITS ..; else, if he CALLS and is heard, he WAITS likewise (CALLED) .. Else they CRASH". */
    private static void callsOrWindow() {
        kindsOf("g1;n0;w0 0 9 1 1 0 0;w1 1 1 1 1 1 0;", PLAIN, WAITED);
        kindsOf("g1;n9;w0 0 9 1 1 0 0;w1 1 1 1 1 1 1;", PLAIN, WAITED);
        kindsOf("g0;n9;w0 0 9 1 1 0 0;w1 1 1 1 1 1 1;", PLAIN, CALLED);
        kindsOf("g0;n9;w0 0 9 1 1 0 0;w1 1 1 1 1 1 0;", CRASHED, CRASHED);
        kindsOf("g0;n0;w0 0 9 1 1 0 0;w1 1 1 1 1 1 1;", CRASHED, CRASHED);
        Room called = Room.of("w0 0 9 1 1 0 0;w1 1 1 1 1 1 1;");
        asks(called, "pass(1, 4)", 8, "he waits likewise");
        asks(called, "told(5)", 8, "tenths waited");
    }

    /** "then he goes on as one who comes then": by what the leaf does at that tenth. */
    private static void goesOnThen() {
        // Busy up to 9; by H open up to 9 (shut, or back, then) or up to 10.
        Room shut = kindsOf("g1;l0 9 0;w0 0 9 1 1 0 0;w1 1 1 1 1 1 0;", PLAIN, WAITED);
        asks(shut, "leaf(0, 3)", 2, "he kicks at 9");
        Room struck = kindsOf("g1;l0 9 1;w0 0 9 1 1 0 0;w1 1 1 7 1 1 0;", PLAIN, STRUCK);
        asks(struck, "leaf(0, 3)", 2, "he kicks, too");
        asks(struck, "told(7)", 78, "his tray and the tenths waited");
        Room open = kindsOf("g1;l0 5 9;w0 0 9 1 2 0 0;w1 1 1 1 1 1 0;", PLAIN, WAITED);
        asks(open, "leaf(0, 3)", 1, "he follows");
        Room called = kindsOf("l0 5 9;w0 0 9 1 2 0 0;w1 1 1 1 1 1 1;", PLAIN, CALLED);
        asks(called, "leaf(0, 3)", 1, "he follows");
        kindsOf("l0 9 1;w0 0 9 1 1 0 0;w1 1 1 7 1 1 1;", PLAIN, STRUCK);
        // Back up to 9, and not counted there.
        kindsOf("g1;l0 5 4;w0 0 9 1 1 0 0;w1 1 1 7 1 1 0;", PLAIN, WAITED);
        kindsOf("g1;l0 5 5;w0 0 9 1 1 0 0;w1 1 1 7 1 1 0;", PLAIN, STRUCK);
    }

    /** "Else they CRASH: he and ..; both trays are lost; .. he is through then". */
    private static void crashes() {
        Room room = kindsOf("w0 3 9 10 1 0 0;w1 4 5 20 1 1 0;", CRASHED, CRASHED);
        asks(room, "pass(0, 5)", 1, "his tray");
        asks(room, "pass(1, 5)", 1, "the other one's");
        asks(room, "told(6)", 30, "both");
        asks(room, "told(7)", 300, "both");
        asks(room, "told(8)", 2, "both");
        asks(room, "pass(1, 1)", 4, "then");
        asks(room, "pass(1, 2)", 24, "20 tenths, not his 5");
        asks(room, "pass(0, 2)", 12, "as he would be");
        asks(room, "pass(1, 4)", 0, "he did not wait");
        asks(room, "leaf(0, 2)", 2, "both took it");
        asks(room, "leaf(0, 3)", 1, "no kick by a crash");
        asks(room, "leaf(1, 2)", 0, "nobody took it");
        // A tray is lost once: the second is crashed into twice.
        Room twice = kindsOf("w0 3 9 10 1 0 0;w1 4 5 20 1 1 0;w0 12 5 40 1 0 0;", CRASHED, CRASHED, CRASHED);
        asks(twice, "told(6)", 70, "each once");
        // Trays worth nothing.
        asks(Room.of("w0 3 9 0 1 0 0;w1 4 5 0 1 1 0;"), "told(7)", 0, "nothing");
        asks(Room.of("w0 3 9 99 1 0 0;w1 4 5 99 1 1 0;"), "told(7)", 1980, "the most");
    }

    /** "who was looked at last of those who went through it for the other side in that while it is BUSY". */
    private static void crashedInto() {
        // The last one looked at, though he is through already and the first one is not.
        kindsOf("w0 0 9 1 1 0 0;w0 1 1 1 1 0 0;w1 8 1 1 1 1 0;", PLAIN, CRASHED, CRASHED);
        // Of like ones the greater number was looked at last.
        kindsOf("w0 0 9 1 1 0 0;w0 0 9 1 1 0 0;w1 0 1 1 1 1 0;", PLAIN, CRASHED, CRASHED);
        // Not one of his own side, not one by the other leaf.
        kindsOf("w0 0 9 1 1 0 0;w1 1 5 1 1 0 0;w0 2 9 1 1 2 0;w1 3 1 1 1 1 0;", PLAIN, PLAIN, CRASHED, CRASHED);
        // Two who crash after each other meet the same one; or him who crashed ahead.
        kindsOf("w0 0 9 1 1 0 0;w1 1 1 1 1 1 0;w1 2 1 1 1 1 0;", CRASHED, CRASHED, CRASHED);
        kindsOf("w0 0 9 1 1 0 0;w1 1 1 1 1 1 0;w0 2 1 1 1 0 0;w1 3 1 1 1 1 0;", CRASHED, CRASHED, CRASHED, CRASHED);
    }

    /** "the LEAF is BUSY for his side 20 tenths from then on". */
    private static void twentyTenths() {
        // Side 1 crashes at 4, so up to 24; those of side 0 by leaf 0.
        String ahead = "l0 1 0;w0 3 9 1 1 0 0;w1 4 30 1 1 1 0;w0 ";
        kindsOf(ahead + "23 1 1 1 0 0;", CRASHED, CRASHED, CRASHED);
        kindsOf(ahead + "24 1 1 1 0 0;", CRASHED, CRASHED, PLAIN);
        String own = "l0 1 0;w0 3 9 1 1 0 0;w1 4 30 1 1 1 0;w1 ";
        kindsOf(own + "23 1 1 1 1 0;", CRASHED, CRASHED, FOLLOWED);
        kindsOf(own + "24 1 1 1 1 0;", CRASHED, CRASHED, WRONG);
        does(Room.of("l0 1 0;w0 3 9 1 1 0 0;w1 4 1 1 1 1 0;"), 0, 22, BUSY, BUSY, SHUT);
        // Who waits behind it waits for its end.
        Room waits = Room.of("l0 1 0;w0 3 9 1 1 0 0;w1 4 30 1 1 1 0;w0 10 1 1 1 0 1;");
        asks(waits, "pass(2, 1)", 24, "he waits for the crash to be over");
        // One of side 0 crashes at 5 into 1, who is in it up to 24: for side 0 it is busy up to 25, from 3 on.
        Room both = Room.of("l0 1 0;w0 3 9 1 1 0 0;w1 4 30 1 1 1 0;w0 5 1 1 1 0 0;");
        does(both, 0, 2, SHUT, BUSY);
        does(both, 0, 24, BUSY, SHUT);
    }

    /** "KIND of a pass: .. the greatest that fits". */
    private static void kinds() {
        kindsOf("w0 0 1 1 1 0 0;", PLAIN);
        kindsOf("w0 0 1 1 1 1 0;", WRONG);
        kindsOf("w0 0 2 1 1 1 0;w0 1 1 1 1 1 0;", WRONG, FOLLOWED);
        // Waited and wrong, waited and followed, waited and struck; called likewise.
        kindsOf("g1;l0 1 0;w0 0 2 1 1 0 0;w1 1 1 1 1 1 0;", PLAIN, WAITED);
        kindsOf("g1;l0 9 0;w0 0 2 1 1 0 0;w1 1 1 1 1 1 0;", PLAIN, WAITED);
        kindsOf("g1;l0 2 1;w0 0 2 1 1 0 0;w1 1 1 1 1 1 0;", PLAIN, STRUCK);
        kindsOf("l0 1 0;w0 0 2 1 1 0 0;w1 1 1 1 1 1 1;", PLAIN, CALLED);
        kindsOf("l0 9 0;w0 0 2 1 1 0 0;w1 1 1 1 1 1 1;", PLAIN, CALLED);
        kindsOf("l0 2 1;w0 0 2 1 1 0 0;w1 1 1 1 1 1 1;", PLAIN, STRUCK);
        // Waited by his own leaf; struck by the other one.
        kindsOf("g1;l1 1 0;w0 0 2 1 1 1 0;w1 1 1 1 1 0 0;", WRONG, WAITED);
        kindsOf("l1 1 9;w0 0 1 1 1 1 0;w0 1 1 1 1 1 0;", WRONG, STRUCK);
        // Struck, then crashed into; wrong, then crashed into.
        Room struck = kindsOf("l0 1 9;w0 0 1 1 1 0 0;w0 1 9 5 1 0 0;w1 2 1 7 1 1 0;", PLAIN, CRASHED, CRASHED);
        asks(struck, "told(9)", 0, "none of them is told as struck");
        asks(struck, "told(6)", 12, "a tray is lost once");
        kindsOf("w1 0 9 1 1 1 0;w0 1 1 1 1 0 0;", CRASHED, CRASHED);
    }

    /** "SECONDS: tenths waited of all together; LOST: V of all trays lost, together"; told 8, 9, 10; leaf 2, 3. */
    private static void counts() {
        Room waits = Room.of("g1;l0 1 0;w0 0 30 1 1 0 0;w1 0 1 1 1 1 0;w1 29 1 1 1 1 0;");
        asks(waits, "told(5)", 31, "30 and 1");
        asks(waits, "told(7)", 31, "30 and 1");
        Room first = Room.of("g1;l0 1 0;w1 1 1 1 1 1 0;w0 0 10 1 1 0 0;");
        asks(first, "told(5)", 9, "by number the first one waits");
        Room struck = Room.of("l0 1 9;w0 0 1 5 1 0 0;w0 1 1 6 1 0 0;w0 3 1 7 1 0 0;w0 99 1 8 1 0 0;");
        asks(struck, "told(6)", 13, "two are struck");
        asks(struck, "told(9)", 2, "two are struck");
        asks(struck, "told(8)", 0, "nobody crashed");
        asks(struck, "told(10)", 100, "the last one");
        asks(struck, "leaf(0, 2)", 4, "all of them");
        asks(struck, "leaf(0, 3)", 4, "all of them");
        Room six = Room.of("w0 0 9 1 9 0 0;w0 1 1 1 1 0 0;w0 2 1 1 1 0 0;w0 3 1 1 1 0 0;w0 4 1 1 1 0 0;w0 5 1 1 1 0 0;");
        asks(six, "leaf(0, 2)", 6, "six follow in one swing");
        asks(six, "leaf(0, 3)", 1, "six follow in one swing");
        asks(six, "told(10)", 9, "the first one is the last to be through");
    }

    /** "What a LEAF does at a TENTH (0 .. 9999) by what there is at the end of the EVENING". */
    private static void leafAtTheEnd() {
        // The first while is gone at the end, the one for the other side is not.
        Room room = Room.of("l0 1 0;w0 0 5 1 1 0 0;w1 20 5 1 1 1 0;w0 40 5 1 1 0 0;");
        does(room, 0, 0, SHUT);
        does(room, 0, 19, SHUT, BUSY);
        does(room, 0, 24, BUSY, SHUT);
        does(room, 0, 39, SHUT, BUSY);
        does(room, 0, 44, BUSY, SHUT);
        // It is asked for what is so now.
        room.after("come(2, 50)");
        does(room, 0, 40, SHUT);
        does(room, 0, 50, BUSY);
    }

    /** The last tenth at which one may come, and what lies behind it. */
    private static void lastTenths() {
        Room room = Room.of("g1;l0 9 9;w0 999 30 1 9 0 0;w1 999 30 1 1 1 0;");
        asks(room, "pass(0, 2)", 1029, "behind 999");
        asks(room, "pass(1, 1)", 1029, "he waits from 999 on");
        asks(room, "pass(1, 4)", 30, "he waits from 999 on");
        asks(room, "told(10)", 1059, "the last one");
        does(room, 0, 998, SHUT, BUSY);
        does(room, 0, 1058, BUSY, OPEN);
        does(room, 0, 1079, OPEN, BACK);
        does(room, 0, 1088, BACK, SHUT);
        does(room, 0, 9999, SHUT);
    }
}
