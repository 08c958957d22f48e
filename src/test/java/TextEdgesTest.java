/** The text of the house (part 1 of the terms): each of its bounds at the last that is allowed and the first that is not. */
final class TextEdgesTest {
    private static final int NONE = SwingLeaves.NONE, FULL = SwingLeaves.FULL, NOT = SwingLeaves.NOT;
    private static final int CANNOT_STAND = 1, BAD_NUMBER = 2, ONE_TOO_MANY = 3, LEAF_AGAIN = 4;
    private static final String ONE = "w0 0 1 0 1 0 0;";
    private static final String SIX = ONE.repeat(6);

    private static final Checks CHECKS = new Checks();

    public static void main(String[] args) {
        lettersAtMost();
        leafBounds();
        leafUntold();
        leafOnce();
        waiterBounds();
        sixWaiters();
        window();
        noise();
        figures();
        noNumber();
        words();
        blanks();
        sideBySide();
        firstLetter();
        leastFault();
        endOfText();
        placeOfFault();
        latestFault();
        allIsAsItWas();
        newHouse();
        CHECKS.end();
    }

    /** This text fits, and then this call answers so. */
    private static void fits(String text, String call, int answer) {
        Room room = new Room();
        int told = room.tell(text);
        CHECKS.due("'" + text + "' fits", 1, told >= 0 ? 1 : 0);
        CHECKS.due("fault of '" + text + "'", NONE, room.ask("fault()"));
        CHECKS.due("'" + text + "': " + call, answer, room.ask(call));
    }

    private static void faulty(String text, int number, int place) {
        Room room = new Room();
        CHECKS.due("house of '" + text + "'", -10 - number, room.tell(text));
        CHECKS.due("fault of '" + text + "'", place, room.ask("fault()"));
        CHECKS.due("waiters of '" + text + "'", 0, room.ask("told(0)"));
    }

    /** Between these two halves of a text stands a number from the least to the most, as the call then tells. */
    private static void bounds(String ahead, String behind, int least, int most, String call) {
        fits(ahead + least + behind, call, least);
        fits(ahead + most + behind, call, most);
        faulty(ahead + (most + 1) + behind, BAD_NUMBER, ahead.length());
        if (least > 0) {
            faulty(ahead + (least - 1) + behind, BAD_NUMBER, ahead.length());
        }
        faulty(ahead + "999999999999" + behind, BAD_NUMBER, ahead.length());
    }

    /** "THE HOUSE is told in a text (250 letters at most)". */
    private static void lettersAtMost() {
        String text = SIX + " ".repeat(156) + "n3; ";
        CHECKS.due("its length", 250, text.length());
        fits(text, "told(3)", 3);
        Room room = new Room().feed(text);
        CHECKS.due("letter 251", FULL, room.ask("feed(120)"));
        CHECKS.due("it was not put down", 6, room.ask("house()"));
        faulty(text.substring(0, 249) + "x", CANNOT_STAND, 249);
        faulty(" ".repeat(248) + "g1", CANNOT_STAND, 250);
        faulty(" ".repeat(249) + "g", CANNOT_STAND, 250);
        fits(" ".repeat(247) + "g1;", "told(2)", 1);
        faulty("9".repeat(250), CANNOT_STAND, 0);
        faulty("n" + "0".repeat(249), BAD_NUMBER, 1);
    }

    /** "LEAF L, 0 or 1 .. H tenths, 1 .. 9 .. BACK in B tenths, 0 .. 9". */
    private static void leafBounds() {
        fits("l0 5 6;", "leaf(0, 0)", 5);
        fits("l1 5 6;", "leaf(1, 1)", 6);
        faulty("l2 5 6;", BAD_NUMBER, 1);
        faulty("l999 5 6;", BAD_NUMBER, 1);
        for (int l = 0; l < 2; l++) {
            bounds("l" + l + " ", " 4;", 1, 9, "leaf(" + l + ", 0)");
            bounds("l" + l + " 4 ", ";", 0, 9, "leaf(" + l + ", 1)");
        }
    }

    /** "2 3 untold", leaf by leaf. */
    private static void leafUntold() {
        fits("", "leaf(0, 0)", 2);
        fits("", "leaf(0, 1)", 3);
        fits("l0 9 8;", "leaf(1, 0)", 2);
        fits("l0 9 8;", "leaf(1, 1)", 3);
        fits("l1 9 8;", "leaf(0, 0)", 2);
        fits("l1 9 8;", "leaf(0, 1)", 3);
    }

    /** "LEAF L, 0 or 1, each once"; "4 'l' of a LEAF again (at the L)". */
    private static void leafOnce() {
        fits("l0 9 8;l1 7 6;", "leaf(0, 0)", 9);
        fits("l1 9 8;l0 7 6;", "leaf(0, 0)", 7);
        faulty("l0 9 8;l0 9 8;", LEAF_AGAIN, 8);
        faulty("l1 9 8;l1 9 8;", LEAF_AGAIN, 8);
        faulty("l0 9 8;l1 9 8;l0 9 8;", LEAF_AGAIN, 15);
        faulty("l0 9 8;l1 9 8;l1 9 8;", LEAF_AGAIN, 15);
        faulty("l0 9 8;l  000 9 8;", LEAF_AGAIN, 10);
        // A third 'l' is no fault by itself: only its leaf is.
        faulty("l0 9 8;l1 9 8;l;", CANNOT_STAND, 15);
        faulty("l0 9 8;l1 9 8;l2", BAD_NUMBER, 15);
        faulty("l0 9 8;l0", LEAF_AGAIN, 8);
    }

    /** "side S .. TENTH C, 0 .. 999; P tenths, 1 .. 30; V, 0 .. 99; KICK K, 1 .. 9; RULE R 0 .. 2; A 1 .. 0". */
    private static void waiterBounds() {
        String[] numbers = {"0", "0", "1", "0", "1", "0", "0"};
        int[] least = {0, 0, 1, 0, 1, 0, 0};
        int[] most = {1, 999, 30, 99, 9, 2, 1};
        for (int i = 0; i < 7; i++) {
            StringBuilder ahead = new StringBuilder("w");
            StringBuilder behind = new StringBuilder();
            for (int j = 0; j < 7; j++) {
                if (j < i) {
                    ahead.append(numbers[j]).append(' ');
                } else if (j > i) {
                    behind.append(' ').append(numbers[j]);
                }
            }
            bounds(ahead.toString(), behind.append(';').toString(), least[i], most[i], "waiter(0, " + i + ")");
        }
        // All at their most, as the sixth.
        Room last = Room.of(ONE.repeat(5) + "w1 999 30 99 9 2 1;");
        for (int i = 0; i < 7; i++) {
            CHECKS.due("the most of number " + i, most[i], last.call("waiter", 5, i));
        }
    }

    /** "6 WAITERS at most"; "3 a seventh 'w' (at it)". */
    private static void sixWaiters() {
        fits(ONE.repeat(5), "told(0)", 5);
        fits(SIX, "told(0)", 6);
        faulty(SIX + ONE, ONE_TOO_MANY, 90);
        faulty(SIX + "w", ONE_TOO_MANY, 90);
        faulty(SIX + "  w", ONE_TOO_MANY, 92);
        faulty(SIX + "wx", ONE_TOO_MANY, 90);
        fits(SIX + "g1;n1;l0 1 1;l1 1 1;", "told(0)", 6);
    }

    /** "a WINDOW: 1 clear, 0 none, or steam; 0 untold; once"; "3 .. 'g' again (at it)". */
    private static void window() {
        bounds("g", ";", 0, 1, "told(2)");
        fits("n1;", "told(2)", 0);
        faulty("g1;g1;", ONE_TOO_MANY, 3);
        faulty("g0;n1;g0;", ONE_TOO_MANY, 6);
        faulty("g0; g", ONE_TOO_MANY, 4);
    }

    /** "NOISE .. 0 .. 9; 9 untold; once"; "3 .. 'n' again (at it)". */
    private static void noise() {
        bounds("n", ";", 0, 9, "told(3)");
        fits("g1;", "told(3)", 9);
        faulty("n9;n9;", ONE_TOO_MANY, 3);
        faulty("n9;g1;n9;", ONE_TOO_MANY, 6);
        faulty("n9; n", ONE_TOO_MANY, 4);
    }

    /** "NUMBERS have one to three figures"; "2 a NUMBER of four figures or more .. (at its first)". */
    private static void figures() {
        fits("n7;", "told(3)", 7);
        fits("n07;", "told(3)", 7);
        fits("n007;", "told(3)", 7);
        faulty("n0007;", BAD_NUMBER, 1);
        faulty("n 0007;", BAD_NUMBER, 2);
        faulty("n00000000000000000007;", BAD_NUMBER, 1);
        fits("w000 000 001 000 001 000 000;", "waiter(0, 2)", 1);
        faulty("w0 0999 1 0 1 0 0;", BAD_NUMBER, 3);
        faulty("w0 1000 1 0 1 0 0;", BAD_NUMBER, 3);
        // Numbers that come back into the bounds by wrap-around: 2 to 32 and 1, 2 to 64 and 1.
        faulty("g4294967297;", BAD_NUMBER, 1);
        faulty("g18446744073709551617;", BAD_NUMBER, 1);
        faulty("w0 4294967296 1 0 1 0 0;", BAD_NUMBER, 3);
    }

    /** A number is due and there is none: '/' and ':' stand beside the figures. */
    private static void noNumber() {
        faulty("g;", CANNOT_STAND, 1);
        faulty("g/;", CANNOT_STAND, 1);
        faulty("g:;", CANNOT_STAND, 1);
        faulty("g-1;", CANNOT_STAND, 1);
        faulty("g+1;", CANNOT_STAND, 1);
        faulty("g1/", CANNOT_STAND, 2);
        faulty("g1:", CANNOT_STAND, 2);
        faulty("l0;", CANNOT_STAND, 2);
        faulty("l0 1;", CANNOT_STAND, 4);
        faulty("l0 1 1 1;", CANNOT_STAND, 7);
        faulty("w0 0 1 0 1 0;", CANNOT_STAND, 12);
        faulty("w0 0 1 0 1 0 0 0;", CANNOT_STAND, 15);
        faulty("g1 1;", CANNOT_STAND, 3);
        faulty("n1 1;", CANNOT_STAND, 3);
    }

    /** "a word is one letter"; "1 it cannot stand there (a letter that is no word)". */
    private static void words() {
        int[] noWords = {0, 1, 9, 10, 13, 31, 33, '0', '9', ';', 'L', 'W', 'G', 'N', 'k', 'm', 'v', 'x', 'f', 'h', 'o', 127, 160, 255};
        for (int letter : noWords) {
            faulty("" + (char) letter, CANNOT_STAND, 0);
            faulty("g1;" + (char) letter, CANNOT_STAND, 3);
            faulty("g1;n" + (letter == '0' || letter == '9' ? 'x' : (char) letter), CANNOT_STAND, 4);
        }
        faulty("gg1;", CANNOT_STAND, 1);
        faulty("g1;;", CANNOT_STAND, 3);
        faulty("g1n1;", CANNOT_STAND, 2);
        faulty("l0 1 1w", CANNOT_STAND, 6);
    }

    /** "blanks (32) may stand anywhere but within NUMBERS". */
    private static void blanks() {
        fits("", "told(0)", 0);
        fits(" ", "told(0)", 0);
        fits(" ".repeat(250), "told(0)", 0);
        fits("  g  1  ;  n  3  ;  ", "told(3)", 3);
        fits("l 1  9   8 ;", "leaf(1, 1)", 8);
        fits(" w 1 999 30 99 9 2 1 ; ", "waiter(0, 1)", 999);
        faulty("w0 9 99 1 0 1 0 0;", BAD_NUMBER, 5);
        faulty("n1 0;", CANNOT_STAND, 3);
        faulty("g\t1;", CANNOT_STAND, 1);
        faulty("g1\n;", CANNOT_STAND, 2);
    }

    /** "two NUMBERS side by side need one"; a word and a number, or two clauses, need none. */
    private static void sideBySide() {
        fits("l0 1 2;l1 3 4;g1;n5;", "told(3)", 5);
        faulty("l01 2;", CANNOT_STAND, 5);
        faulty("l011;", BAD_NUMBER, 1);
        faulty("l0 12;", BAD_NUMBER, 3);
        faulty("w00 1 1 0 1 0;", CANNOT_STAND, 13);
    }

    /** "FAULTS, at the first letter that has one": what comes behind it does not matter. */
    private static void firstLetter() {
        faulty("g2;x", BAD_NUMBER, 1);
        faulty("x;g2;", CANNOT_STAND, 0);
        faulty("g1;g2;", ONE_TOO_MANY, 3);
        faulty("l0 1 1;l0 0 1;", LEAF_AGAIN, 8);
        faulty("l0 0 1;l0 1 1;", BAD_NUMBER, 3);
        faulty(SIX + "w9 x", ONE_TOO_MANY, 90);
        faulty("g1000x", BAD_NUMBER, 1);
        faulty("g1x000", CANNOT_STAND, 2);
        faulty("n10", BAD_NUMBER, 1);
    }

    /** "of these the least": one letter with two faults. */
    private static void leastFault() {
        // A number that cannot stand there, of four figures at that.
        faulty("1000", CANNOT_STAND, 0);
        faulty("g1 1000;", CANNOT_STAND, 3);
        faulty("l0 1 1 0000;", CANNOT_STAND, 7);
        // 'g' and 'n' again, a seventh 'w', within a clause.
        faulty("g1;n g1;", CANNOT_STAND, 5);
        faulty("n1;g1 n1;", CANNOT_STAND, 6);
        faulty(SIX + "g w", CANNOT_STAND, 92);
        faulty("g g", CANNOT_STAND, 2);
        // The L of a leaf again, in four figures.
        faulty("l0 1 1;l0000 1 1;", BAD_NUMBER, 8);
    }

    /** "(the end at the text's length)". */
    private static void endOfText() {
        String[] cut = {"g", "g1", "n", "n9", "l", "l0", "l0 1", "l0 1 1", "w", "w0", "w0 0 1 0 1 0", "w0 0 1 0 1 0 0"};
        for (String text : cut) {
            faulty(text, CANNOT_STAND, text.length());
            faulty(text + "   ", CANNOT_STAND, text.length() + 3);
            faulty("   " + text, CANNOT_STAND, text.length() + 3);
        }
    }

    /** Each fault at its own place, with blanks ahead of it. */
    private static void placeOfFault() {
        faulty("  x", CANNOT_STAND, 2);
        faulty("n  10 ;", BAD_NUMBER, 3);
        faulty("n1;  n1;", ONE_TOO_MANY, 5);
        faulty("l0 1 1;l  0 1 1;", LEAF_AGAIN, 10);
        faulty("w0 0  31 0 1 0 0;", BAD_NUMBER, 6);
    }

    /** "The letter of the FAULT of the latest house(); NONE." */
    private static void latestFault() {
        Room room = new Room();
        CHECKS.due("fault() of a new object", NONE, room.ask("fault()"));
        room.tell("x");
        CHECKS.due("fault() at the first letter", 0, room.ask("fault()"));
        CHECKS.due("fault() again", 0, room.ask("fault()"));
        room.feed("g1;x");
        CHECKS.due("fault() as long as house() does not come", 0, room.ask("fault()"));
        room.ask("house()");
        CHECKS.due("fault() of the next one", 3, room.ask("fault()"));
        room.tell("g1;");
        CHECKS.due("fault() of a text without one", NONE, room.ask("fault()"));
        room.tell("g");
        CHECKS.due("fault() at the end", 1, room.ask("fault()"));
        room.ask("house()");
        CHECKS.due("fault() of an empty text", NONE, room.ask("fault()"));
    }

    /** "-10 less the number of its FAULT (all is as it was)"; the text is empty behind every house(). */
    private static void allIsAsItWas() {
        String[] texts = {"l0 9 9;l1 9 9;g0;n1;w0 500 5 5 5 1 1;x", "l0 9 9;n1;w0 1000", "g0;n1;g", "n1;l0 9 9;l0"};
        int[] answers = {-11, -12, -13, -14};
        for (int i = 0; i < texts.length; i++) {
            Room room = Room.of("l0 3 4;g1;n2;w1 12 6 7 8 2 1;");
            room.after("come(0, 13)", "kick(0, 5)", "rule(0, 1)", "write(0, 0)", "seed(6)", "keep(1)");
            CHECKS.due(texts[i], answers[i], room.tell(texts[i]));
            CHECKS.due("the text is empty", 0, room.ask("told(1)"));
            int[] waiter = {1, 13, 6, 7, 5, 1, 1};
            for (int what = 0; what <= 6; what++) {
                CHECKS.due("as it was: waiter(0, " + what + ")", waiter[what], room.call("waiter", 0, what));
            }
            CHECKS.due("as it was: waiters", 1, room.ask("told(0)"));
            CHECKS.due("as it was: H", 3, room.ask("leaf(0, 0)"));
            CHECKS.due("as it was: B", 4, room.ask("leaf(0, 1)"));
            CHECKS.due("as it was: untold H", 2, room.ask("leaf(1, 0)"));
            CHECKS.due("as it was: untold B", 3, room.ask("leaf(1, 1)"));
            CHECKS.due("as it was: the window", 1, room.ask("told(2)"));
            CHECKS.due("as it was: noise", 2, room.ask("told(3)"));
            CHECKS.due("as it was: the book", 1, room.ask("told(4)"));
            CHECKS.due("as it was: image 0", NOT, room.ask("goBack(0)"));
            CHECKS.due("as it was: image 1", 1, room.ask("goBack(1)"));
            CHECKS.due("as it was: the seed", 6, room.ask("seed(0)"));
            // Nothing of it comes into the next one: no leaf, window or noise is there twice.
            CHECKS.due("the next one", 0, room.tell("l0 1 1;l1 1 1;g1;n1;"));
        }
    }

    /** "THE TEXT (it is empty then) becomes THE HOUSE (no BOOK; IMAGES are gone; THE SEED stays)". */
    private static void newHouse() {
        Room room = Room.of("l0 3 4;l1 5 6;g1;n2;w1 12 6 7 8 2 1;");
        room.after("write(0, 0)", "seed(6)", "keep(0)", "keep(1)");
        CHECKS.due("a text of no letters", 0, room.ask("house()"));
        CHECKS.due("no waiters", 0, room.ask("told(0)"));
        CHECKS.due("H is untold", 2, room.ask("leaf(0, 0)"));
        CHECKS.due("B is untold", 3, room.ask("leaf(1, 1)"));
        CHECKS.due("the window is untold", 0, room.ask("told(2)"));
        CHECKS.due("noise is untold", 9, room.ask("told(3)"));
        CHECKS.due("no book", 0, room.ask("told(4)"));
        CHECKS.due("image 0 is gone", NOT, room.ask("goBack(0)"));
        CHECKS.due("image 1 is gone", NOT, room.ask("goBack(1)"));
        CHECKS.due("the seed stays", 6, room.ask("seed(0)"));
        CHECKS.due("a text behind it", 1, room.tell(ONE));
        CHECKS.due("told(1)", 0, room.ask("told(1)"));
        CHECKS.due("the same text once more", 1, room.tell(ONE));
    }
}
