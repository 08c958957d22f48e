/**
 * What is tried, the book, draws and images (part 3 of the terms): ties, both ends of each search, and numbers that wrap
 * around; and that trying changes nothing.
 */
final class TriedEdgesTest {
    private static final int NONE = SwingLeaves.NONE, NOT = SwingLeaves.NOT;
    private static final int HIGH = Integer.MAX_VALUE;

    /** Two of the kitchen: leaf 0 is open up to 1 and comes back up to 6, so the second is struck at 1 .. 5. */
    private static final String TWINS = "l0 1 5;w0 0 1 10 1 0 0;w0 ";
    /** Six who meet in the middle. */
    private static final String CROWD = "l0 2 3;l1 1 4;n3;w0 10 9 11 1 0 0;w1 11 8 12 2 1 1;w0 12 7 13 3 2 0;w1 13 6 14 1 0 1;"
        + "w0 20 5 15 2 1 1;w1 21 4 16 3 2 0;";

    private static final Checks CHECKS = new Checks();

    public static void main(String[] args) {
        all();
        bestTies();
        bestKickEnds();
        changeEnds();
        worthEnds();
        apartEnds();
        orderEnds();
        orderTies();
        rests();
        stack();
        until();
        unheard();
        learns();
        book();
        draws();
        seedWraps();
        images();
        nothingChanges();
        lastCalls();
        CHECKS.end();
    }

    private static void asks(Room room, String call, int answer, String why) {
        CHECKS.due(why + ": " + call, answer, room.ask(call));
    }

    /** "ALL by one RULE: COST", whatever rule each one has. */
    private static void all() {
        Room room = Room.of("l0 1 0;l1 1 0;w0 0 9 5 1 0 0;w1 1 9 6 1 1 0;");
        asks(room, "told(7)", 110, "by their own rules");
        asks(room, "all(0)", 0, "each his own leaf");
        asks(room, "all(1)", 0, "each the other one");
        asks(room, "all(2)", 0, "each by sight");
        Room twins = Room.of("l0 1 5;l1 9 0;w0 0 1 10 1 0 0;w0 3 1 20 1 2 0;");
        asks(twins, "all(0)", 200, "struck by leaf 0");
        asks(twins, "all(1)", 0, "leaf 1 stays open");
        asks(twins, "all(2)", 200, "by their own leaf, which is busy for nobody else");
    }

    /** "BEST RULES of all: the least COST; of like ones the first (WAITER by WAITER the lesser RULE)". */
    private static void bestTies() {
        Room alone = Room.of("w0 0 1 5 1 2 0;");
        asks(alone, "best(NONE)", 0, "one alone");
        asks(alone, "best(0)", 0, "all alike: the least rule");
        // Both by one leaf: the second is struck at 3 by either; apart he is not. 0 1 goes ahead of 1 0.
        Room two = Room.of("l0 1 5;l1 1 5;w0 0 1 10 1 1 0;w0 3 1 20 1 1 0;");
        asks(two, "told(7)", 200, "as it is");
        asks(two, "best(NONE)", 0, "apart");
        asks(two, "best(0)", 0, "the first has the lesser one");
        asks(two, "best(1)", 1, "the second goes by the other leaf");
        // Six alike: nothing to be gained, all 0.
        Room six = Room.of("w0 0 1 5 1 2 0;".repeat(6));
        for (int w = 0; w < 6; w++) {
            asks(six, "best(" + w + ")", 0, "six at once follow");
        }
        // Both leaves come back as the third comes, unless the second (with nothing to lose) goes by the first one's.
        Room last = Room.of("l0 1 9;l1 1 9;w0 0 1 0 1 0 0;w1 0 1 0 1 0 0;w0 3 1 7 1 0 0;");
        asks(last, "told(7)", 70, "as it is");
        asks(last, "best(NONE)", 0, "leaf 1 is left alone");
        asks(last, "best(0)", 0, "the first stays");
        asks(last, "best(1)", 1, "the second crashes into him");
        asks(last, "best(2)", 1, "the third goes by leaf 1");
        // One of three is struck in any case: the third has the cheapest tray.
        Room three = Room.of("l0 1 9;l1 1 9;w0 0 1 9 1 2 0;w0 3 1 8 1 2 0;w0 6 1 7 1 2 0;");
        asks(three, "best(NONE)", 70, "the cheapest tray");
        asks(three, "best(0)", 0, "the first stays");
        asks(three, "best(1)", 1, "the second goes by leaf 1");
        asks(three, "best(2)", 0, "the third is struck by either");
        // By 0 1 0 the second waits for one tenth; by 0 1 1 the third, who has nothing to lose, is out of his way.
        Room nothing = Room.of("l0 1 9;l1 9 0;g1;w0 0 1 0 1 0 0;w0 3 1 5 1 0 0;w1 2 2 0 1 0 0;");
        asks(nothing, "best(NONE)", 0, "less than one tenth");
        asks(nothing, "best(1)", 1, "less than one tenth");
        asks(nothing, "best(2)", 1, "less than one tenth");
    }

    /** "BEST KICK of one: that by which COST is least; of like ones the least": from 1 up to 9. */
    private static void bestKickEnds() {
        // The leaf holds for K tenths and comes back for 9: at 8 the second is struck, unless it is still open.
        Room hardest = Room.of("l0 1 9;w0 0 1 0 1 0 0;w0 8 1 10 1 0 0;");
        asks(hardest, "bestKick(0, 0)", 9, "the hardest alone");
        asks(hardest, "bestKick(0, 1)", 0, "the hardest alone");
        asks(hardest, "bestKick(1, 0)", 1, "his own kick does not matter");
        asks(hardest, "bestKick(1, 1)", 100, "his own kick does not matter");
        Room never = Room.of("l0 1 9;w0 0 1 0 5 0 0;w0 9 1 10 1 0 0;");
        asks(never, "bestKick(0, 0)", 1, "none helps");
        asks(never, "bestKick(0, 1)", 100, "none helps");
        // Back for 1 tenth alone: at 9 the second is struck by kick 9 only.
        Room softest = Room.of("l0 1 1;w0 0 1 0 9 0 0;w0 9 1 10 1 0 0;");
        asks(softest, "told(7)", 100, "as it is");
        asks(softest, "bestKick(0, 0)", 1, "the softest will do");
        asks(softest, "bestKick(0, 1)", 0, "the softest will do");
        Room second = Room.of("l0 1 1;w0 0 1 0 9 0 0;w0 1 1 10 1 0 0;");
        asks(second, "bestKick(0, 0)", 2, "by kick 1 he would be struck");
        asks(second, "waiter(0, 4)", 9, "the kick is as it was");
    }

    /** "the least TENTH (0 .. 1000) by which COST is least". */
    private static void changeEnds() {
        Room alike = Room.of("w0 500 1 5 1 0 0;");
        asks(alike, "change(0, 1, 0)", 0, "all alike");
        asks(alike, "change(2, 2, 0)", 0, "from one to the same");
        // Leaf 1 comes back from one of side 1 at 998 as the one of side 0 comes at 999.
        String last = "l0 9 9;l1 1 9;w0 998 1 5 1 0 0;w1 998 1 5 1 0 0;w0 999 1 5 1 0 0;";
        asks(Room.of(last), "change(0, 1, 0)", 1000, "never");
        asks(Room.of(last), "change(0, 1, 1)", 0, "never");
        // By 999 the one who comes then changes over, by 1000 he does not.
        Room at = Room.of("l0 1 9;l1 1 9;w0 998 1 5 1 0 0;w0 999 1 5 1 0 0;");
        asks(at, "change(0, 1, 0)", 999, "the one at 999 changes over");
        asks(at, "change(0, 1, 1)", 0, "the one at 999 changes over");
        // From the first tenth on: the one at 0 changes over by 0 alone.
        Room first = Room.of("l0 1 9;l1 1 9;w0 0 1 5 1 0 0;w0 1 1 5 1 0 0;");
        asks(first, "change(0, 1, 0)", 1, "the least behind the first one");
        asks(first, "change(1, 0, 0)", 1, "the least behind the first one");
        asks(first, "change(0, 0, 1)", 50, "no change");
        Room zero = Room.of("l0 1 9;l1 9 9;w0 0 1 5 1 0 0;w0 1 1 5 1 0 0;w0 2 1 5 1 0 0;");
        asks(zero, "change(0, 1, 0)", 0, "all by leaf 1");
        asks(zero, "change(0, 1, 1)", 0, "all by leaf 1");
        asks(zero, "change(1, 0, 0)", 2, "by 1 the third would be struck by leaf 0");
        // By 0 the third is struck, by 4 the second waits for one tenth, by 6 the third is struck, by 7 all go by their own.
        Room four = Room.of("g1;l0 1 5;l1 1 0;w1 3 3 0 1 1 0;w0 5 2 0 1 0 0;w1 6 3 5 1 0 0;");
        asks(four, "change(0, 1, 0)", 7, "less than one tenth");
        asks(four, "change(0, 1, 1)", 0, "less than one tenth");
        // Six by one leaf: all but the first are struck, whenever they change over to the same rule.
        Room six = Room.of("l0 1 9;w0 0 1 1 1 0 0;w0 3 1 1 1 0 0;w0 6 1 1 1 0 0;w0 9 1 1 1 0 0;w0 12 1 1 1 0 0;w0 999 1 1 1 0 0;");
        asks(six, "change(0, 0, 0)", 0, "of like ones the least");
        asks(six, "change(0, 0, 1)", 40, "the last one comes late");
    }

    /** "WORTH .. in so many evenings (0 .. 999; may be below 0)". */
    private static void worthEnds() {
        Room waits = Room.of("l0 1 0;w0 0 10 0 1 0 0;w1 1 5 0 1 1 0;");
        asks(waits, "worth(0, 0)", 0, "none");
        asks(waits, "worth(0, 1)", -9, "he waits for nothing");
        asks(waits, "worth(0, 999)", -8991, "he waits for nothing");
        Room crash = Room.of("l0 1 0;n0;w0 0 10 99 1 0 0;w1 1 5 99 1 1 1;");
        asks(crash, "worth(0, 1)", 1971, "two trays less nine tenths");
        asks(crash, "worth(0, 999)", 1969029, "two trays less nine tenths");
        asks(crash, "worth(1, 1)", 1971, "a call that is heard");
        asks(crash, "worth(1, 999)", 1969029, "a call that is heard");
        asks(crash, "worth(1, 0)", 0, "none");
        asks(crash.after("glass(true)"), "worth(0, 1)", 1971, "with it and without, as it is now");
        asks(crash, "worth(1, 1)", 0, "they see each other");
        asks(crash.after("glass(false)", "noise(9)"), "worth(1, 999)", 0, "as quiet as can be");
        asks(crash, "worth(0, 999)", 0, "a call does as well");
        Room calls = Room.of("l0 1 0;n0;w0 0 10 0 1 0 0;w1 1 5 0 1 1 1;");
        asks(calls, "worth(1, 999)", -8991, "he waits for nothing");
    }

    /** "all of a side come g tenths apart, from the least of their C's on, in order of their numbers" (g 0 .. 50). */
    private static void apartEnds() {
        Room twins = Room.of(TWINS + "300 1 20 1 0 0;");
        asks(twins, "apart(0, 0)", 0, "at once");
        asks(twins, "apart(0, 1)", 200, "the first tenth at which it comes back");
        asks(twins, "apart(0, 5)", 200, "the last one");
        asks(twins, "apart(0, 6)", 0, "shut");
        asks(twins, "apart(0, 50)", 0, "shut");
        asks(twins, "apart(1, 1)", 0, "nobody of that side: as it is");
        // From the least of their C's on, though the second has it.
        Room turned = Room.of("l0 1 5;w0 300 1 10 1 0 0;w0 7 1 20 1 0 0;");
        asks(turned, "apart(0, 1)", 200, "the second by number is struck");
        // Behind the last tenth: 999, 1049, .. 1249; by kick 9 leaf 0 is open up to 81 and comes back up to 90.
        Room late = Room.of("l0 9 9;" + "w0 999 1 10 9 0 0;".repeat(6));
        asks(late, "apart(0, 50)", 0, "open for every second one, shut for the others");
        Room back = Room.of("l0 9 9;" + "w0 999 1 10 5 0 0;".repeat(6));
        asks(back, "apart(0, 50)", 500, "open up to 45, back up to 54");
        asks(back, "apart(0, 44)", 0, "open, then shut");
        asks(back, "apart(0, 45)", 500, "the first tenth at which it comes back");
        // The other side stays: at 1049 it meets the second one of side 0.
        Room other = Room.of("l0 1 0;w0 949 9 10 1 0 0;w0 0 9 10 1 0 0;w1 57 1 20 1 1 0;");
        asks(other, "apart(0, 50)", 300, "the second by number comes at 50");
        asks(other, "apart(1, 50)", 0, "they stay");
    }

    /** "i = NONE the COST, else the WAITER who comes as the i-th of them; NONE: not so many". */
    private static void orderEnds() {
        // Side 0: 0, 2, 3; side 1: 1. At 0, 1, 7: the one at 1 is struck.
        Room room = Room.of("l0 1 5;w0 7 1 10 1 0 0;w1 400 1 1 1 0 0;w0 1 1 20 1 0 0;w0 0 1 5 1 0 0;");
        asks(room, "told(7)", 200, "as it is");
        asks(room, "order(0, NONE)", 50, "the cheapest tray comes at 1");
        asks(room, "order(0, 0)", 0, "the lesser of the others");
        asks(room, "order(0, 1)", 3, "the cheapest tray");
        asks(room, "order(0, 2)", 2, "the greater of the others");
        asks(room, "order(0, 3)", NONE, "not so many");
        asks(room, "order(0, HIGH)", NONE, "not so many");
        asks(room, "order(1, NONE)", 200, "one alone has no other order");
        asks(room, "order(1, 0)", 1, "one alone");
        asks(room, "order(1, 1)", NONE, "not so many");
        Room six = Room.of("l0 1 5;w0 0 1 60 1 0 0;w0 0 1 50 1 0 0;w0 0 1 40 1 0 0;w0 0 1 30 1 0 0;w0 0 1 20 1 0 0;w0 1 1 10 1 0 0;");
        asks(six, "order(0, 5)", 5, "the cheapest comes last already");
        asks(six, "order(0, 6)", NONE, "not so many");
        asks(six.after("come(5, 0)", "come(0, 1)"), "order(0, 5)", 5, "he should");
        asks(six, "order(0, 0)", 0, "the others rise");
        asks(six, "order(0, 4)", 4, "the others rise");
        asks(six, "order(0, NONE)", 100, "his tray alone");
        asks(six, "order(1, 0)", NONE, "nobody of that side");
        asks(six, "order(1, NONE)", 600, "nobody of that side: as it is");
    }

    /** "of like ones the first (C by C, rising, the lesser WAITER)". */
    private static void orderTies() {
        Room three = Room.of("w0 300 1 5 1 0 0;w0 200 1 5 1 0 0;w0 100 1 5 1 0 0;");
        asks(three, "order(0, NONE)", 0, "all alike");
        for (int i = 0; i < 3; i++) {
            asks(three, "order(0, " + i + ")", i, "all alike: as they are numbered");
        }
        // One C for two of them: who has it first does not matter.
        Room like = Room.of(TWINS + "0 1 20 1 0 0;");
        asks(like, "order(0, 0)", 0, "one C for both");
        asks(like, "order(0, 1)", 1, "one C for both");
        // The last order alone is the best: the third holds the leaf open for the second, and the first is struck.
        Room last = Room.of("l0 1 9;w0 0 1 1 1 0 0;w0 2 1 50 1 0 0;w0 4 1 90 3 0 0;");
        asks(last, "told(7)", 1400, "as it is");
        asks(last, "order(0, NONE)", 10, "the cheapest tray");
        for (int i = 0; i < 3; i++) {
            asks(last, "order(0, " + i + ")", 2 - i, "the last order");
        }
        // As they are the third waits for one tenth, the other way round nobody does.
        Room tenth = Room.of("g1;l0 1 0;l1 1 1;w0 2 1 0 1 1 0;w0 5 2 0 1 0 0;w1 2 3 0 1 0 0;");
        asks(tenth, "told(7)", 1, "as it is");
        asks(tenth, "order(0, NONE)", 0, "less than one tenth");
        asks(tenth, "order(0, 0)", 1, "less than one tenth");
        // Each kick needs 9 tenths behind it; the gaps grow from 10 to 14, so the kicks must grow from 1 on: the last of 720.
        Room six = Room.of("l0 1 9;w0 0 1 1 6 0 0;w0 10 1 1 5 0 0;w0 21 1 1 4 0 0;w0 33 1 1 3 0 0;w0 46 1 1 2 0 0;w0 60 1 1 1 0 0;");
        asks(six, "order(0, NONE)", 0, "the last of 720");
        for (int i = 0; i < 6; i++) {
            asks(six, "order(0, " + i + ")", 5 - i, "the last of 720");
        }
        // Likewise one in the middle: the kicks of 1, 3, 0, 2 grow.
        Room four = Room.of("l0 1 9;w0 0 1 1 3 0 0;w0 10 1 1 1 0 0;w0 21 1 1 4 0 0;w0 33 1 1 2 0 0;");
        int[] middle = {1, 3, 0, 2};
        asks(four, "order(0, NONE)", 0, "one of 24");
        for (int i = 0; i < 4; i++) {
            asks(four, "order(0, " + i + ")", middle[i], "one of 24");
        }
    }

    /** "RESTS: pairs by which neither would lose less by himself: a SET, bit 2 times the first one's and the second one's". */
    private static void rests() {
        String ahead = "w0 0 ";
        // Each would lose 20 and V by going, the other's P by waiting.
        asks(Room.of(ahead + "19 0 1 0 0;w1 0 19 0 1 0 0;"), "rests(0, 1)", 6, "P 19 is less than 20");
        asks(Room.of(ahead + "20 0 1 0 0;w1 0 20 0 1 0 0;"), "rests(0, 1)", 7, "P 20 is not");
        asks(Room.of(ahead + "21 0 1 0 0;w1 0 21 0 1 0 0;"), "rests(0, 1)", 1, "P 21 is more");
        asks(Room.of(ahead + "30 10 1 0 0;w1 0 30 10 1 0 0;"), "rests(0, 1)", 7, "V 10 and 20 are as much as P 30");
        asks(Room.of(ahead + "30 11 1 0 0;w1 0 30 11 1 0 0;"), "rests(0, 1)", 6, "V 11 and 20 are more");
        asks(Room.of(ahead + "30 9 1 0 0;w1 0 30 9 1 0 0;"), "rests(0, 1)", 1, "V 9 and 20 are less");
        // The first one's tray is dear, the second takes long: the first one waits.
        Room unlike = Room.of(ahead + "30 99 1 0 0;w1 0 30 0 1 0 0;");
        asks(unlike, "rests(0, 1)", 4, "he waits, the other one goes");
        asks(unlike, "rests(1, 0)", 2, "the other way round");
        asks(Room.of(ahead + "1 99 1 0 0;w1 0 1 99 1 0 0;"), "rests(0, 1)", 6, "both wait: never a rest");
    }

    /** "h trays (1 .. 9) .. (100 less q times h; 0 at least) is greatest; of like ones the least h". */
    private static void stack() {
        int[] q = {0, 1, 5, 6, 7, 8, 9, 10, 11, 14, 15, 16, 19, 20, 21, 33, 34, 50, 51, 99, 100};
        int[] h = {9, 9, 9, 8, 7, 6, 6, 5, 5, 4, 3, 3, 3, 2, 2, 2, 1, 1, 1, 1, 1};
        Room room = new Room();
        for (int i = 0; i < q.length; i++) {
            CHECKS.due("stack(" + q[i] + ")", h[i], room.call("stack", q[i]));
        }
    }

    /** "the fewest passes (0 .. 9999) behind which the odds .. are x of a hundred of BILLION at most; NONE". */
    private static void until() {
        Room room = new Room();
        asks(room, "until(0, 100)", 0, "at most: BILLION at first");
        asks(room, "until(1000, 100)", 0, "none is needed");
        asks(room, "until(0, 99)", NONE, "the odds stay");
        asks(room, "until(1, 99)", 11, "0.999 to the 11th is 0.98905, to the 10th 0.99004");
        asks(room, "until(10, 99)", 1, "just 99 of a hundred");
        asks(room, "until(9, 99)", 2, "0.991 is more than 99 of a hundred");
        asks(room, "until(11, 99)", 1, "0.989 is less");
        asks(room, "until(1000, 0)", 1, "no odds are left");
        asks(room, "until(1000, 99)", 1, "no odds are left");
        asks(room, "until(999, 0)", 4, "a million, a thousand, one, cut to none");
        asks(room, "until(900, 0)", 10, "a figure less by each, the last one cut");
        asks(room, "until(500, 25)", 2, "a half twice");
        asks(room, "until(500, 24)", 3, "a half thrice");
        asks(room, "until(500, 0)", 30, "2 to the 30th is more than BILLION");
        asks(room, "until(1, 1)", 4603, "0.999 to the 4603rd");
        asks(room, "until(2, 0)", 7536, "the most that end");
        asks(room, "until(1, 0)", NONE, "more than 9999");
        asks(room, "until(0, 0)", NONE, "the odds stay");
    }

    /** "odds that it was not heard: a part in lowest terms". */
    private static void unheard() {
        int[][] rows = {{0, 1, 0, 1}, {0, 100, 0, 1}, {1, 0, 1, 1}, {100, 0, 1, 1}, {100, 100, 1, 1}, {50, 100, 1, 2}, {50, 50, 2, 3},
            {1, 100, 1, 100}, {1, 1, 100, 199}, {99, 1, 9900, 9901}, {99, 100, 99, 100}, {30, 10, 30, 37}, {60, 75, 2, 3}};
        Room room = new Room();
        for (int[] row : rows) {
            CHECKS.due("above of " + row[0] + ", " + row[1], row[2], room.call("unheard", row[0], row[1], 0));
            CHECKS.due("below of " + row[0] + ", " + row[1], row[3], room.call("unheard", row[0], row[1], 1));
        }
    }

    /** "till he was STRUCK (counts once) or CRASHED (counts twice) n times in all: how many EVENINGS till then; NONE: never". */
    private static void learns() {
        // By rule 1 the first crashes, the second is struck, the third is not touched.
        Room struck = Room.of("l1 1 5;w0 0 1 10 1 1 0;w0 3 1 20 1 0 0;w0 90 1 10 1 0 0;");
        Room crashed = Room.of("w1 0 9 10 1 0 0;w0 3 1 20 1 0 0;");
        for (int n = 1; n <= 9; n++) {
            asks(struck, "learns(1, " + n + ")", n, "struck once an evening");
            asks(crashed, "learns(1, " + n + ")", (n + 1) / 2, "twice an evening");
            asks(struck, "learns(2, " + n + ")", NONE, "never");
            asks(struck, "learns(0, " + n + ")", NONE, "never, as the first");
        }
        // He learns by being crashed into, too; the others go by their rules.
        Room into = Room.of("w0 0 9 10 1 0 0;w1 3 1 20 1 0 0;");
        asks(into, "learns(0, 1)", 1, "by leaf 1 he is crashed into");
        asks(into, "learns(0, 9)", 5, "by leaf 1 he is crashed into");
        asks(into, "learns(1, 2)", 1, "by leaf 0 he crashes");
        asks(into, "learns(1, 3)", 2, "by leaf 0 he crashes");
        asks(into, "told(8)", 0, "by their own rules none does");
    }

    /** "THE BOOK (20 at most) tells KINDS: WRONG: the first of a WAITER who passed otherwise; NONE". */
    private static void book() {
        Room room = Room.of(TWINS + "3 1 20 1 0 0;");
        asks(room, "judge()", NONE, "an empty book");
        for (int line = 0; line < 19; line++) {
            asks(room, "write(0, 0)", line + 1, "a line");
        }
        asks(room, "judge()", NONE, "all are right");
        asks(room, "write(1, 4)", 20, "the last line");
        asks(room, "judge()", 19, "the last line is wrong");
        asks(room.after("write(1, 5)"), "judge()", 19, "a 21st is not put down");
        asks(room.after("rule(0, 1)"), "judge()", 0, "now the first is wrong");
        asks(room, "tear()", 20, "a full book");
        asks(room, "judge()", NONE, "an empty book");
        asks(room.after("rule(0, 0)"), "write(1, 5)", 1, "a first line again");
        asks(room, "judge()", NONE, "he was struck");
        asks(room, "write(0, 6)", 2, "a line");
        asks(room, "judge()", 1, "he did not crash");
        // One may be told twice, in two ways: one of them is wrong.
        asks(room.after("tear()", "write(1, 5)", "write(1, 5)", "write(1, 0)", "write(1, 1)"), "judge()", 2, "the first of them");
    }

    /** "each WAITER's C becomes a DRAW of 200; a DRAW of 4 is 0: the WINDOW becomes clear, or steam". */
    private static void draws() {
        // From seed 0: 12345 (0), 1406932606 (21468: 68), 654583775 (9988: 188, 0 of 4), 1449466924 (22117: 117, 1 of 4).
        Room room = Room.of("w0 7 1 50 1 0 0;w1 7 1 50 1 0 0;");
        room.ask("drift(1)");
        asks(room, "waiter(0, 1)", 0, "the first draw");
        asks(room, "waiter(1, 1)", 68, "the second draw");
        asks(room, "told(2)", 1, "the third: 0 of 4, it becomes clear");
        asks(room, "seed(0)", 654583775, "three draws");
        room.ask("drift(1)");
        asks(room, "told(2)", 0, "0 of 4 again: it becomes steam");
        asks(room, "seed(12345)", 654583775, "three draws");
        room.ask("drift(1)");
        asks(room, "waiter(0, 1)", 68, "the second draw");
        asks(room, "waiter(1, 1)", 188, "the third draw");
        asks(room, "told(2)", 0, "1 of 4: it stays");
        asks(room.after("seed(12345)", "glass(true)", "drift(1)"), "told(2)", 1, "1 of 4: it stays");
        // From seed 329: 10, 20, 3 of 4: they crash; then 150, 160, 0 of 4: by the window the second waits for 20 tenths.
        String two = "l0 1 0;w0 7 30 99 1 0 0;w1 7 1 50 1 1 0;";
        asks(Room.of(two).after("seed(329)"), "drift(1)", 1490, "two trays");
        asks(Room.of(two).after("seed(329)"), "drift(2)", 1510, "all together");
        asks(Room.of(two).after("seed(329)", "drift(1)"), "drift(1)", 20, "the second evening alone");
        asks(Room.of(two).after("seed(329)", "drift(2)"), "told(7)", 20, "the last of them is so now");
    }

    /** "times 1103515245 and 12345, left over by 2 to the 31". */
    private static void seedWraps() {
        // 2147483647 is -1 by 2 to the 31: 12345 less 1103515245, and 2147483648: 1043980748, whose 15929 gives 129.
        Room room = Room.of("w0 7 1 50 1 0 0;").after("seed(HIGH)", "drift(1)");
        asks(room, "waiter(0, 1)", 129, "a draw from the greatest seed");
        Room six = Room.of("w0 7 1 50 1 0 0;".repeat(6)).after("seed(HIGH)", "drift(99)");
        long seed = HIGH;
        for (int draw = 0; draw < 99 * 7; draw++) {
            seed = (seed * 1103515245L + 12345L) & 0x7fffffffL;
        }
        CHECKS.due("the seed behind 693 draws", seed, six.ask("seed(0)"));
        for (int w = 0; w < 6; w++) {
            int c = six.call("waiter", w, 1);
            CHECKS.due("a draw of 200 in its bounds", 1, c >= 0 && c <= 199 ? 1 : 0);
        }
    }

    /** "IMAGES 0, 1 keep C's, KICKS, RULES, the WINDOW, NOISE, THE SEED": each of them, and nothing else. */
    private static void images() {
        for (int i = 0; i < 2; i++) {
            Room room = Room.of(CROWD);
            room.after("come(5, 999)", "kick(5, 9)", "rule(5, 2)", "glass(true)", "noise(0)", "seed(HIGH)", "write(0, 0)");
            CHECKS.due("keep", 1, room.call("keep", i));
            room.after("come(5, 0)", "kick(5, 1)", "rule(5, 0)", "glass(false)", "noise(9)", "seed(0)", "write(0, 1)").feed("g1");
            CHECKS.due("the other one was not kept", NOT, room.call("goBack", 1 - i));
            CHECKS.due("goBack", 1, room.call("goBack", i));
            asks(room, "waiter(5, 1)", 999, "kept");
            asks(room, "waiter(5, 4)", 9, "kept");
            asks(room, "waiter(5, 5)", 2, "kept");
            asks(room, "told(2)", 1, "kept");
            asks(room, "told(3)", 0, "kept");
            asks(room, "seed(4)", HIGH, "kept");
            asks(room, "told(4)", 2, "the book is not in it");
            asks(room, "told(1)", 2, "the text is not in it");
            // An image stays as it is, until it is kept anew.
            room.after("come(5, 1)");
            CHECKS.due("goBack again", 1, room.call("goBack", i));
            asks(room, "waiter(5, 1)", 999, "still kept");
            room.after("come(5, 2)");
            CHECKS.due("keep anew", 1, room.call("keep", i));
            room.after("come(5, 3)");
            CHECKS.due("goBack to the new one", 1, room.call("goBack", i));
            asks(room, "waiter(5, 1)", 2, "kept anew");
        }
    }

    /** "TRIED (nothing changes by it)". */
    private static void nothingChanges() {
        String[] calls = {"all(0)", "all(1)", "all(2)", "best(NONE)", "best(5)", "bestKick(0, 0)", "bestKick(5, 1)", "change(0, 1, 0)",
            "change(2, 1, 1)", "worth(0, 999)", "worth(1, 999)", "apart(0, 50)", "apart(1, 0)", "order(0, NONE)", "order(1, 2)",
            "rests(0, 1)", "stack(7)", "until(500, 0)", "unheard(1, 1, 0)", "learns(0, 9)", "learns(5, 1)", "judge()",
            "told(7)", "pass(0, 0)", "leafAt(0, 20)", "leaf(0, 2)"};
        String untouched = evening(Room.of(CROWD).after("write(0, 0)", "seed(3)"));
        for (String call : calls) {
            Room room = Room.of(CROWD).after("write(0, 0)", "seed(3)", call);
            CHECKS.due(call + " changes nothing", 1, evening(room).equals(untouched) ? 1 : 0);
            // Nor does the answer change by being asked for.
            Room twice = Room.of(CROWD);
            CHECKS.due(call + " once more", twice.ask(call), twice.ask(call));
        }
    }

    private static String evening(Room room) {
        StringBuilder s = new StringBuilder();
        for (int what = 0; what <= 10; what++) {
            s.append(room.call("told", what)).append(' ');
        }
        for (int w = 0; w < 6; w++) {
            for (int what = 0; what <= 6; what++) {
                s.append(room.call("waiter", w, what)).append(' ');
            }
            for (int what = 0; what <= 5; what++) {
                s.append(room.call("pass", w, what)).append(' ');
            }
        }
        return s.append(room.ask("seed(0)")).append(' ').append(room.ask("goBack(0)")).toString();
    }

    /** "An object is used for at most 512 calls": the 512th is answered as any. */
    private static void lastCalls() {
        Room room = new Room();
        for (int call = 1; call <= 511; call++) {
            room.call("noise", call % 10);
        }
        asks(room, "noise(5)", 1, "the 512th call");
    }
}
