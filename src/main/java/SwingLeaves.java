import java.util.Arrays;

/** Two swing leaves between kitchen and dining room, and the waiters who pass them in an evening. */
public final class SwingLeaves {
    public static final int NONE = -1, UNKNOWN = -1000000001, OUTSIDE = -1000000002, NOT = -1000000003, FULL = -1000000004;

    private static final int MOST_LETTERS = 250;
    private static final int MOST_WAITERS = 6;
    private static final int MOST_LINES = 20;
    private static final int LEAVES = 2;
    private static final int SIDES = 2;
    private static final int IMAGES = 2;
    private static final int RULES = 3;
    private static final int MOST_KICK = 9;
    private static final int LAST_COMING = 999;
    private static final int QUIET = 9;

    private static final int PLAIN = 0;
    private static final int FOLLOWED = 1;
    private static final int WRONG_LEAF = 2;
    private static final int CALLED = 3;
    private static final int WAITED = 4;
    private static final int STRUCK = 5;
    private static final int CRASHED = 6;

    private final Reader reader = new Reader();
    private final House house = new House();
    private final Plan plan = new Plan();
    private final Evening evening = new Evening(house);
    private final Trials trials = new Trials(house, plan, evening);
    private final Image[] images = new Image[IMAGES];
    private final int[] bookWaiters = new int[MOST_LINES];
    private final int[] bookKinds = new int[MOST_LINES];
    private int bookLines = 0;
    private long drawn = 0;
    private int faultPlace = NONE;

    public SwingLeaves() {
        for (int i = 0; i < IMAGES; i++) {
            images[i] = new Image();
        }
    }

    // ---- the house

    public int feed(int letter) {
        if (letter < 0 || letter > 255) {
            return OUTSIDE;
        }
        if (reader.length >= MOST_LETTERS) {
            return FULL;
        }
        return reader.take(letter);
    }

    public int house() {
        reader.read();
        if (reader.fault != 0) {
            faultPlace = reader.faultPlace;
            return -10 - reader.fault;
        }
        faultPlace = NONE;
        house.copyFrom(reader.house);
        plan.copyFrom(reader.plan);
        bookLines = 0;
        for (int i = 0; i < IMAGES; i++) {
            images[i].kept = false;
        }
        return house.waiters;
    }

    public int fault() {
        return faultPlace;
    }

    public int told(int what) {
        if (what < 0 || what > 10) {
            return OUTSIDE;
        }
        switch (what) {
            case 0: return house.waiters;
            case 1: return reader.length;
            case 2: return plan.clear;
            case 3: return plan.noise;
            case 4: return bookLines;
            default: return toldOfEvening(what);
        }
    }

    private int toldOfEvening(int what) {
        evening.run(plan);
        switch (what) {
            case 5: return evening.seconds();
            case 6: return evening.losses();
            case 7: return evening.cost();
            case 8: return evening.howMany(CRASHED);
            case 9: return evening.howMany(STRUCK);
            default: return evening.end();
        }
    }

    public int leaf(int l, int what) {
        if (noLeaf(l)) {
            return UNKNOWN;
        }
        if (what < 0 || what > 3) {
            return OUTSIDE;
        }
        if (what == 0) {
            return house.holds[l];
        }
        if (what == 1) {
            return house.backs[l];
        }
        evening.run(plan);
        return what == 2 ? evening.swings[l].takers : evening.swings[l].kicks;
    }

    public int waiter(int w, int what) {
        if (noWaiter(w)) {
            return UNKNOWN;
        }
        if (what < 0 || what > 6) {
            return OUTSIDE;
        }
        switch (what) {
            case 0: return house.sides[w];
            case 1: return plan.comings[w];
            case 2: return house.spans[w];
            case 3: return house.values[w];
            case 4: return plan.kicks[w];
            case 5: return plan.rules[w];
            default: return house.callers[w];
        }
    }

    // ---- what is done

    public int come(int w, int v) {
        return put(plan.comings, w, v, 0, LAST_COMING);
    }

    public int rule(int w, int v) {
        return put(plan.rules, w, v, 0, RULES - 1);
    }

    public int kick(int w, int v) {
        return put(plan.kicks, w, v, 1, MOST_KICK);
    }

    private int put(int[] row, int w, int v, int least, int most) {
        if (noWaiter(w)) {
            return UNKNOWN;
        }
        if (v < least || v > most) {
            return OUTSIDE;
        }
        int was = row[w];
        row[w] = v;
        return was;
    }

    public int glass(boolean clear) {
        int was = plan.clear;
        plan.clear = clear ? 1 : 0;
        return was;
    }

    public int noise(int v) {
        if (v < 0 || v > QUIET) {
            return OUTSIDE;
        }
        int was = plan.noise;
        plan.noise = v;
        return was;
    }

    public int drift(int n) {
        if (n < 1 || n > 99) {
            return OUTSIDE;
        }
        if (house.waiters == 0) {
            return NOT;
        }
        int together = 0;
        for (int i = 0; i < n; i++) {
            for (int w = 0; w < house.waiters; w++) {
                plan.comings[w] = drawOf(200);
            }
            if (drawOf(4) == 0) {
                plan.clear = 1 - plan.clear;
            }
            evening.run(plan);
            together += evening.cost();
        }
        return together;
    }

    private int drawOf(int n) {
        drawn = (drawn * 1103515245L + 12345L) % 2147483648L;
        return n < 1 ? 0 : (int) (drawn / 65536 % n);
    }

    // ---- the evening

    public int pass(int w, int what) {
        if (noWaiter(w)) {
            return UNKNOWN;
        }
        if (what < 0 || what > 5) {
            return OUTSIDE;
        }
        evening.run(plan);
        Passage passage = evening.passages[w];
        switch (what) {
            case 0: return passage.kind;
            case 1: return passage.start;
            case 2: return passage.end;
            case 3: return passage.leaf;
            case 4: return passage.waited;
            default: return passage.lost;
        }
    }

    public int leafAt(int l, int tenth) {
        if (noLeaf(l)) {
            return UNKNOWN;
        }
        if (tenth < 0 || tenth > 9999) {
            return OUTSIDE;
        }
        evening.run(plan);
        return evening.swings[l].doing(tenth);
    }

    // ---- tried

    public int all(int r) {
        return noRule(r) ? OUTSIDE : trials.allBy(r);
    }

    public int best(int w) {
        if (w != NONE && noWaiter(w)) {
            return UNKNOWN;
        }
        return trials.bestRules(w);
    }

    public int bestKick(int w, int what) {
        if (noWaiter(w)) {
            return UNKNOWN;
        }
        if (what < 0 || what > 1) {
            return OUTSIDE;
        }
        trials.findKick(w);
        return what == 0 ? trials.found : trials.foundCost;
    }

    public int change(int a, int b, int what) {
        if (noRule(a) || noRule(b) || what < 0 || what > 1) {
            return OUTSIDE;
        }
        trials.findChange(a, b);
        return what == 0 ? trials.found : trials.foundCost;
    }

    public int worth(int what, int n) {
        if (what < 0 || what > 1 || n < 0 || n > 999) {
            return OUTSIDE;
        }
        return n * (what == 0 ? trials.windowSaves() : trials.quietSaves());
    }

    public int apart(int side, int g) {
        if (noSide(side) || g < 0 || g > 50) {
            return OUTSIDE;
        }
        return trials.spread(side, g);
    }

    public int order(int side, int i) {
        if (noSide(side)) {
            return OUTSIDE;
        }
        return trials.bestOrder(side, i);
    }

    public int rests(int a, int b) {
        if (noWaiter(a) || noWaiter(b) || a == b) {
            return UNKNOWN;
        }
        if (house.sides[a] == house.sides[b]) {
            return NOT;
        }
        return trials.restingPairs(a, b);
    }

    public int stack(int q) {
        if (q < 0 || q > 100) {
            return OUTSIDE;
        }
        int bestHeight = 1;
        for (int h = 2; h <= 9; h++) {
            if (carried(h, q) > carried(bestHeight, q)) {
                bestHeight = h;
            }
        }
        return bestHeight;
    }

    private static int carried(int height, int q) {
        return height * Math.max(0, 100 - q * height);
    }

    public int until(int q, int x) {
        if (q < 0 || q > 1000 || x < 0 || x > 100) {
            return OUTSIDE;
        }
        long odds = 1000000000L;
        long enough = x * 10000000L;
        for (int passes = 0; passes <= 9999; passes++) {
            if (odds <= enough) {
                return passes;
            }
            odds = odds * (1000 - q) / 1000;
        }
        return NONE;
    }

    public int unheard(int q, int r, int part) {
        if (q < 0 || q > 100 || r < 0 || r > 100 || part < 0 || part > 1) {
            return OUTSIDE;
        }
        int above = 100 * q;
        int below = above + (100 - q) * r;
        int shared = commonDivisor(below, above);
        if (shared == 0) {
            return NOT;
        }
        return (part == 0 ? above : below) / shared;
    }

    /** Euclid's steps grow with the figures of the numbers: a hundred are far more than these need. */
    private static int commonDivisor(int a, int b) {
        int high = a;
        int low = b;
        for (int step = 0; step < 100 && low != 0; step++) {
            int rest = high % low;
            high = low;
            low = rest;
        }
        return high;
    }

    public int learns(int w, int n) {
        if (noWaiter(w)) {
            return UNKNOWN;
        }
        if (n < 1 || n > 9) {
            return OUTSIDE;
        }
        int kind = trials.kindOnOtherLeaf(w);
        if (kind == CRASHED) {
            return (n + 1) / 2;
        }
        return kind == STRUCK ? n : NONE;
    }

    // ---- books, images

    public int write(int w, int kind) {
        if (noWaiter(w)) {
            return UNKNOWN;
        }
        if (kind < PLAIN || kind > CRASHED) {
            return OUTSIDE;
        }
        if (bookLines >= MOST_LINES) {
            return FULL;
        }
        bookWaiters[bookLines] = w;
        bookKinds[bookLines] = kind;
        bookLines++;
        return bookLines;
    }

    public int tear() {
        int had = bookLines;
        bookLines = 0;
        return had;
    }

    public int judge() {
        evening.run(plan);
        for (int line = 0; line < bookLines; line++) {
            if (evening.passages[bookWaiters[line]].kind != bookKinds[line]) {
                return line;
            }
        }
        return NONE;
    }

    public int seed(int v) {
        if (v < 0) {
            return OUTSIDE;
        }
        int was = (int) drawn;
        drawn = v;
        return was;
    }

    public int keep(int i) {
        if (noImage(i)) {
            return UNKNOWN;
        }
        images[i].plan.copyFrom(plan);
        images[i].drawn = drawn;
        images[i].kept = true;
        return 1;
    }

    public int goBack(int i) {
        if (noImage(i)) {
            return UNKNOWN;
        }
        if (!images[i].kept) {
            return NOT;
        }
        plan.copyFrom(images[i].plan);
        drawn = images[i].drawn;
        return 1;
    }

    // ---- what there is not

    private boolean noWaiter(int w) {
        return w < 0 || w >= house.waiters;
    }

    private static boolean noLeaf(int l) {
        return l < 0 || l >= LEAVES;
    }

    private static boolean noSide(int side) {
        return side < 0 || side >= SIDES;
    }

    private static boolean noRule(int r) {
        return r < 0 || r >= RULES;
    }

    private static boolean noImage(int i) {
        return i < 0 || i >= IMAGES;
    }

    /** What only a new text changes. */
    private static final class House {
        final int[] holds = new int[LEAVES];
        final int[] backs = new int[LEAVES];
        final int[] sides = new int[MOST_WAITERS];
        final int[] spans = new int[MOST_WAITERS];
        final int[] values = new int[MOST_WAITERS];
        final int[] callers = new int[MOST_WAITERS];
        int waiters = 0;

        House() {
            makeUntold();
        }

        void makeUntold() {
            Arrays.fill(holds, 2);
            Arrays.fill(backs, 3);
            waiters = 0;
        }

        void copyFrom(House other) {
            System.arraycopy(other.holds, 0, holds, 0, LEAVES);
            System.arraycopy(other.backs, 0, backs, 0, LEAVES);
            System.arraycopy(other.sides, 0, sides, 0, MOST_WAITERS);
            System.arraycopy(other.spans, 0, spans, 0, MOST_WAITERS);
            System.arraycopy(other.values, 0, values, 0, MOST_WAITERS);
            System.arraycopy(other.callers, 0, callers, 0, MOST_WAITERS);
            waiters = other.waiters;
        }
    }

    /** What calls change, trials vary and images keep. */
    private static final class Plan {
        final int[] comings = new int[MOST_WAITERS];
        final int[] kicks = new int[MOST_WAITERS];
        final int[] rules = new int[MOST_WAITERS];
        int clear = 0;
        int noise = QUIET;

        void makeUntold() {
            clear = 0;
            noise = QUIET;
        }

        void copyFrom(Plan other) {
            System.arraycopy(other.comings, 0, comings, 0, MOST_WAITERS);
            System.arraycopy(other.kicks, 0, kicks, 0, MOST_WAITERS);
            System.arraycopy(other.rules, 0, rules, 0, MOST_WAITERS);
            clear = other.clear;
            noise = other.noise;
        }
    }

    private static final class Image {
        final Plan plan = new Plan();
        long drawn = 0;
        boolean kept = false;
    }

    /** Reads the text into a house of its own, so that a fault leaves the one in use as it was. */
    private static final class Reader {
        private static final int CANNOT_STAND = 1;
        private static final int BAD_NUMBER = 2;
        private static final int ONE_TOO_MANY = 3;
        private static final int LEAF_AGAIN = 4;

        final House house = new House();
        final Plan plan = new Plan();
        final int[] text = new int[MOST_LETTERS];
        final int[] leafTold = new int[LEAVES];
        int length = 0;
        int fault = 0;
        int faultPlace = NONE;
        private int at = 0;
        private int numberPlace = 0;
        private boolean windowTold = false;
        private boolean noiseTold = false;

        int take(int letter) {
            if (length < MOST_LETTERS) {
                text[length] = letter;
                length++;
            }
            return length;
        }

        void read() {
            house.makeUntold();
            plan.makeUntold();
            Arrays.fill(leafTold, 0);
            windowTold = false;
            noiseTold = false;
            fault = 0;
            faultPlace = NONE;
            at = 0;
            // Each clause takes a letter at least.
            for (int clause = 0; clause < MOST_LETTERS && fault == 0; clause++) {
                skipBlanks();
                if (at >= length) {
                    break;
                }
                readClause(text[at]);
            }
            length = 0;
        }

        private void readClause(int word) {
            switch (word) {
                case 'l':
                    readLeaf();
                    break;
                case 'w':
                    readWaiter();
                    break;
                case 'g':
                    readWindow();
                    break;
                case 'n':
                    readNoise();
                    break;
                default:
                    fail(CANNOT_STAND, at);
            }
        }

        private void readLeaf() {
            at++;
            int l = readNumber(0, LEAVES - 1);
            if (leafTold[l] == 1) {
                fail(LEAF_AGAIN, numberPlace);
            }
            leafTold[l] = 1;
            house.holds[l] = readNumber(1, 9);
            house.backs[l] = readNumber(0, 9);
            readEnd();
        }

        private void readWaiter() {
            int w = house.waiters;
            if (w >= MOST_WAITERS) {
                fail(ONE_TOO_MANY, at);
                return;
            }
            at++;
            house.sides[w] = readNumber(0, SIDES - 1);
            plan.comings[w] = readNumber(0, LAST_COMING);
            house.spans[w] = readNumber(1, 30);
            house.values[w] = readNumber(0, 99);
            plan.kicks[w] = readNumber(1, MOST_KICK);
            plan.rules[w] = readNumber(0, RULES - 1);
            house.callers[w] = readNumber(0, 1);
            readEnd();
            house.waiters = w + 1;
        }

        private void readWindow() {
            if (windowTold) {
                fail(ONE_TOO_MANY, at);
            }
            windowTold = true;
            at++;
            plan.clear = readNumber(0, 1);
            readEnd();
        }

        private void readNoise() {
            if (noiseTold) {
                fail(ONE_TOO_MANY, at);
            }
            noiseTold = true;
            at++;
            plan.noise = readNumber(0, QUIET);
            readEnd();
        }

        /** The least number that may stand there takes the place of one that has a fault. */
        private int readNumber(int least, int most) {
            skipBlanks();
            if (!figureAt(at)) {
                fail(CANNOT_STAND, at);
                return least;
            }
            numberPlace = at;
            int number = 0;
            for (int figures = 0; figures < MOST_LETTERS && figureAt(at); figures++) {
                // Held down lest a long row of figures wraps around into the bounds.
                number = Math.min(number * 10 + text[at] - '0', 10000);
                at++;
            }
            if (at - numberPlace > 3 || number < least || number > most) {
                fail(BAD_NUMBER, numberPlace);
                return least;
            }
            return number;
        }

        private void readEnd() {
            skipBlanks();
            if (at >= length || text[at] != ';') {
                fail(CANNOT_STAND, at);
                return;
            }
            at++;
        }

        private void skipBlanks() {
            for (int i = 0; i < MOST_LETTERS && at < length && text[at] == ' '; i++) {
                at++;
            }
        }

        private boolean figureAt(int place) {
            return place < length && text[place] >= '0' && text[place] <= '9';
        }

        /** The reading goes from left to right, so the first fault that is met is the one to tell. */
        private void fail(int number, int place) {
            if (fault == 0) {
                fault = number;
                faultPlace = place;
            }
        }
    }

    /** What a leaf does in an evening, by those who were looked at so far. */
    private static final class Swing {
        final int[] busyFrom = new int[SIDES];
        final int[] busyTill = new int[SIDES];
        final int[] latest = new int[SIDES];
        int openFrom = 0;
        int openTill = 0;
        int backTill = 0;
        int takers = 0;
        int kicks = 0;

        void rest() {
            Arrays.fill(busyFrom, 0);
            Arrays.fill(busyTill, 0);
            Arrays.fill(latest, NONE);
            openFrom = 0;
            openTill = 0;
            backTill = 0;
            takers = 0;
            kicks = 0;
        }

        boolean busyFor(int side, int tenth) {
            return busyFrom[side] <= tenth && tenth < busyTill[side];
        }

        boolean openAt(int tenth) {
            return openFrom <= tenth && tenth < openTill;
        }

        boolean comesBackAt(int tenth) {
            return openTill <= tenth && tenth < backTill;
        }

        void letThrough(int w, int side, int start, int end) {
            // One who waited goes later than some who are looked at behind him: such a while stretches.
            if (busyTill[side] <= start) {
                busyFrom[side] = start;
                busyTill[side] = end;
            } else {
                busyFrom[side] = Math.min(busyFrom[side], start);
                busyTill[side] = Math.max(busyTill[side], end);
            }
            latest[side] = w;
        }

        void takeKick(int tenth, int held, int back) {
            openFrom = tenth;
            openTill = tenth + held;
            backTill = openTill + back;
            kicks++;
        }

        int doing(int tenth) {
            if (busyFor(0, tenth) || busyFor(1, tenth)) {
                return 1;
            }
            if (openAt(tenth)) {
                return 2;
            }
            return comesBackAt(tenth) ? 3 : 0;
        }
    }

    /** How one waiter passed. */
    private static final class Passage {
        int kind = 0;
        int start = 0;
        int end = 0;
        int leaf = 0;
        int waited = 0;
        int lost = 0;

        void crash() {
            kind = CRASHED;
            lost = 1;
        }
    }

    /** Its rows are used again by each run: a run answers for the plan it was given last. */
    private static final class Evening {
        private static final int CRASH_TENTHS = 20;
        private static final int EARSHOT_TENTHS = 20;

        final House house;
        final Swing[] swings = new Swing[LEAVES];
        final Passage[] passages = new Passage[MOST_WAITERS];
        private final int[] queue = new int[MOST_WAITERS];

        Evening(House house) {
            this.house = house;
            for (int l = 0; l < LEAVES; l++) {
                swings[l] = new Swing();
            }
            for (int w = 0; w < MOST_WAITERS; w++) {
                passages[w] = new Passage();
            }
        }

        void run(Plan plan) {
            for (int l = 0; l < LEAVES; l++) {
                swings[l].rest();
            }
            lineUp(plan);
            for (int i = 0; i < house.waiters; i++) {
                lookAt(queue[i], plan);
            }
        }

        private void lineUp(Plan plan) {
            for (int w = 0; w < house.waiters; w++) {
                int place = w;
                while (place > 0 && plan.comings[queue[place - 1]] > plan.comings[w]) {
                    queue[place] = queue[place - 1];
                    place--;
                }
                queue[place] = w;
            }
        }

        private void lookAt(int w, Plan plan) {
            int side = house.sides[w];
            int other = 1 - side;
            int tenth = plan.comings[w];
            int start = tenth;
            int span = house.spans[w];
            Passage passage = passages[w];
            passage.kind = PLAIN;
            passage.lost = 0;
            passage.leaf = chooseLeaf(plan.rules[w], side, tenth);
            Swing swing = swings[passage.leaf];
            swing.takers++;
            if (swing.busyFor(other, tenth) && plan.clear == 0 && !isHeard(w, plan)) {
                span = CRASH_TENTHS;
                crashBoth(w, swing.latest[other]);
            } else {
                if (swing.busyFor(other, tenth)) {
                    start = swing.busyTill[other];
                    passage.kind = plan.clear == 1 ? WAITED : CALLED;
                }
                goThrough(w, plan, start);
            }
            passage.waited = start - tenth;
            passage.start = start;
            passage.end = start + span;
            swing.letThrough(w, side, start, start + span);
        }

        private int chooseLeaf(int rule, int own, int tenth) {
            int far = 1 - own;
            if (rule == 0) {
                return own;
            }
            if (rule == 1) {
                return far;
            }
            // Side 0 meets side 1 and the other way round, so the number of the far side is that of the far leaf.
            boolean farIsBetter = swings[own].busyFor(far, tenth) && !swings[far].busyFor(far, tenth);
            return farIsBetter ? far : own;
        }

        private boolean isHeard(int w, Plan plan) {
            if (house.callers[w] == 0) {
                return false;
            }
            int others = 0;
            for (int o = 0; o < house.waiters; o++) {
                int ahead = plan.comings[w] - plan.comings[o];
                if (ahead >= 1 && ahead <= EARSHOT_TENTHS) {
                    others++;
                }
            }
            return others < plan.noise;
        }

        private void goThrough(int w, Plan plan, int tenth) {
            Passage passage = passages[w];
            Swing swing = swings[passage.leaf];
            int side = house.sides[w];
            if (swing.busyFor(side, tenth) || swing.openAt(tenth)) {
                passage.kind = Math.max(passage.kind, FOLLOWED);
            } else {
                if (swing.comesBackAt(tenth)) {
                    passage.kind = STRUCK;
                    passage.lost = 1;
                } else if (passage.leaf != side) {
                    passage.kind = Math.max(passage.kind, WRONG_LEAF);
                }
                swing.takeKick(tenth, plan.kicks[w] * house.holds[passage.leaf], house.backs[passage.leaf]);
            }
        }

        /** Who is busy in a leaf is its latest of his side: each pass widens the while to hold its own start. */
        private void crashBoth(int w, int met) {
            passages[w].crash();
            if (met >= 0) {
                passages[met].crash();
            }
        }

        int seconds() {
            int sum = 0;
            for (int w = 0; w < house.waiters; w++) {
                sum += passages[w].waited;
            }
            return sum;
        }

        int losses() {
            int sum = 0;
            for (int w = 0; w < house.waiters; w++) {
                sum += passages[w].lost * house.values[w];
            }
            return sum;
        }

        int cost() {
            return losses() * 10 + seconds();
        }

        int howMany(int kind) {
            int sum = 0;
            for (int w = 0; w < house.waiters; w++) {
                if (passages[w].kind == kind) {
                    sum++;
                }
            }
            return sum;
        }

        int end() {
            int last = 0;
            for (int w = 0; w < house.waiters; w++) {
                last = Math.max(last, passages[w].end);
            }
            return last;
        }
    }

    /** The waiters of one side and the tenths at which they come, for trying who comes when. */
    private static final class Seating {
        private static final int[] ORDERS = {1, 1, 2, 6, 24, 120, 720};

        final int[] tenths = new int[MOST_WAITERS];
        final int[] seated = new int[MOST_WAITERS];
        private final int[] members = new int[MOST_WAITERS];
        int count = 0;

        void gather(House house, Plan plan, int side) {
            count = 0;
            for (int w = 0; w < house.waiters; w++) {
                if (house.sides[w] == side) {
                    members[count] = w;
                    insertTenth(plan.comings[w]);
                    count++;
                }
            }
        }

        private void insertTenth(int tenth) {
            int place = count;
            while (place > 0 && tenths[place - 1] > tenth) {
                tenths[place] = tenths[place - 1];
                place--;
            }
            tenths[place] = tenth;
        }

        int orders() {
            return ORDERS[count];
        }

        /** Orders are numbered as a book of words is sorted: those with the lesser waiter ahead come first. */
        void seatBy(int number) {
            System.arraycopy(members, 0, seated, 0, count);
            int rest = number;
            for (int place = 0; place < count; place++) {
                int each = Math.max(1, ORDERS[count - 1 - place]);
                bringForward(Math.min(place + rest / each, count - 1), place);
                rest = rest % each;
            }
        }

        private void bringForward(int from, int to) {
            int waiter = seated[from];
            for (int i = from; i > to; i--) {
                seated[i] = seated[i - 1];
            }
            seated[to] = waiter;
        }

        void giveTenths(Plan plan) {
            for (int place = 0; place < count; place++) {
                plan.comings[seated[place]] = tenths[place];
            }
        }
    }

    /** Tries what could be on a plan of its own, so that what is so stays. */
    private static final class Trials {
        private static final int BUMP_LOSS = 20;
        private static final int BOTH_WAIT_LOSS = 9;
        private static final int ABOVE_ALL_COSTS = 1000000000;

        private final House house;
        private final Plan plan;
        private final Evening evening;
        private final Plan trial = new Plan();
        private final Seating seating = new Seating();
        int found = 0;
        int foundCost = 0;

        Trials(House house, Plan plan, Evening evening) {
            this.house = house;
            this.plan = plan;
            this.evening = evening;
        }

        private void startSearch() {
            trial.copyFrom(plan);
            found = 0;
            foundCost = ABOVE_ALL_COSTS;
        }

        /** Of like ones the first that is tried stays; so a search may end at a cost of 0. */
        private void weigh(int choice) {
            evening.run(trial);
            int cost = evening.cost();
            if (cost < foundCost) {
                found = choice;
                foundCost = cost;
            }
        }

        private int trialCost() {
            evening.run(trial);
            return evening.cost();
        }

        int allBy(int r) {
            trial.copyFrom(plan);
            Arrays.fill(trial.rules, r);
            return trialCost();
        }

        int bestRules(int w) {
            startSearch();
            int choices = 1;
            for (int i = 0; i < house.waiters; i++) {
                choices *= RULES;
            }
            for (int choice = 0; choice < choices && foundCost > 0; choice++) {
                spellRules(choice);
                weigh(choice);
            }
            spellRules(found);
            return w >= 0 && w < MOST_WAITERS ? trial.rules[w] : foundCost;
        }

        /** The last waiter's rule is the last figure, so that rising numbers go waiter by waiter. */
        private void spellRules(int choice) {
            int rest = choice;
            for (int w = house.waiters - 1; w >= 0; w--) {
                trial.rules[w] = rest % RULES;
                rest = rest / RULES;
            }
        }

        void findKick(int w) {
            startSearch();
            for (int k = 1; k <= MOST_KICK && foundCost > 0; k++) {
                trial.kicks[w] = k;
                weigh(k);
            }
        }

        /** A later tenth makes another evening only right behind one at which somebody comes. */
        void findChange(int before, int after) {
            startSearch();
            for (int tenth = 0; tenth <= LAST_COMING + 1 && foundCost > 0; tenth++) {
                if (tenth == 0 || oneComesAt(tenth - 1)) {
                    changeAt(tenth, before, after);
                    weigh(tenth);
                }
            }
        }

        private boolean oneComesAt(int tenth) {
            for (int w = 0; w < house.waiters; w++) {
                if (plan.comings[w] == tenth) {
                    return true;
                }
            }
            return false;
        }

        private void changeAt(int tenth, int before, int after) {
            for (int w = 0; w < house.waiters; w++) {
                trial.rules[w] = trial.comings[w] >= tenth ? after : before;
            }
        }

        int windowSaves() {
            trial.copyFrom(plan);
            trial.clear = 0;
            int without = trialCost();
            trial.clear = 1;
            return without - trialCost();
        }

        int quietSaves() {
            trial.copyFrom(plan);
            int without = trialCost();
            trial.noise = QUIET;
            return without - trialCost();
        }

        int spread(int side, int g) {
            trial.copyFrom(plan);
            seating.gather(house, plan, side);
            seating.seatBy(0);
            for (int i = 1; i < seating.count; i++) {
                seating.tenths[i] = seating.tenths[0] + i * g;
            }
            seating.giveTenths(trial);
            return trialCost();
        }

        int bestOrder(int side, int i) {
            startSearch();
            seating.gather(house, plan, side);
            for (int number = 0; number < seating.orders() && foundCost > 0; number++) {
                seating.seatBy(number);
                seating.giveTenths(trial);
                weigh(number);
            }
            if (i == NONE) {
                return foundCost;
            }
            if (i < 0 || i >= seating.count) {
                return NONE;
            }
            seating.seatBy(found);
            return seating.seated[i];
        }

        int restingPairs(int a, int b) {
            int set = 0;
            for (int first = 0; first < 2; first++) {
                for (int second = 0; second < 2; second++) {
                    boolean firstRests = lossOf(a, b, first, second) <= lossOf(a, b, 1 - first, second);
                    boolean secondRests = lossOf(b, a, second, first) <= lossOf(b, a, 1 - second, first);
                    if (firstRests && secondRests) {
                        set |= 1 << (2 * first + second);
                    }
                }
            }
            return set;
        }

        /** What one loses if he and the other one go (0) or wait (1). */
        private int lossOf(int one, int other, int his, int others) {
            if (his == 0) {
                return others == 0 ? house.values[one] + BUMP_LOSS : 0;
            }
            return others == 0 ? house.spans[other] : BOTH_WAIT_LOSS;
        }

        int kindOnOtherLeaf(int w) {
            trial.copyFrom(plan);
            trial.rules[w] = 1;
            evening.run(trial);
            return evening.passages[w].kind;
        }
    }
}
