import java.util.Random;

/** Runs of calls drawn by fixed seeds: the class and the model answer alike. */
final class ModelTest {
    private static final String[] CALLS = {
        "told 1", "leaf 2", "waiter 2", "come 2", "rule 2", "kick 2", "glass 1", "noise 1", "drift 1", "pass 2", "leafAt 2",
        "all 1", "best 1", "bestKick 2", "change 3", "worth 2", "apart 2", "order 2", "rests 2", "stack 1", "until 2",
        "unheard 3", "learns 2", "write 2", "tear 0", "judge 0", "seed 1", "keep 1", "goBack 1", "fault 0"};
    private static final int[] EDGES = {
        Integer.MIN_VALUE, -1000000001, -2, -1, 0, 1, 2, 3, 5, 6, 7, 8, 9, 10, 11, 19, 20, 21, 30, 31, 50, 51, 99, 100, 101,
        255, 256, 998, 999, 1000, 1001, 9999, 10000, 65536, Integer.MAX_VALUE - 1, Integer.MAX_VALUE};
    private static final String MIXED = "lwgn;; 0123456789  x\u00e9\t,L";

    /** Nothing is promised behind the last of them. */
    private static final int MOST_CALLS = 512;

    private final Checks checks = new Checks();
    private final Random random;
    private SwingLeaves x;
    private Model model;
    private int run;
    private int calls;

    private ModelTest(long seed) {
        random = new Random(seed);
    }

    public static void main(String[] args) {
        ModelTest test = new ModelTest(20261117L);
        test.texts(4000);
        test.evenings(3000);
        test.mixtures(400);
        test.numbers();
        test.checks.end();
    }

    private void fresh() {
        x = new SwingLeaves();
        model = new Model();
        run++;
        calls = 0;
    }

    private int ask(String name, int... a) {
        calls++;
        if (calls > MOST_CALLS) {
            throw new IllegalStateException("run " + run + " makes more than " + MOST_CALLS + " calls");
        }
        StringBuilder call = new StringBuilder("run " + run + ", call " + calls + ": " + name + "(");
        for (int i = 0; i < a.length; i++) {
            call.append(i == 0 ? "" : ", ").append(a[i]);
        }
        int want = model.call(name, a);
        checks.due(call.append(")").toString(), want, Room.answer(x, name, a));
        return want;
    }

    private int between(int least, int most) {
        return least + random.nextInt(most - least + 1);
    }

    private int tell(String text) {
        for (int i = 0; i < text.length(); i++) {
            ask("feed", text.charAt(i));
        }
        return ask("house");
    }

    private String someHouse() {
        StringBuilder s = new StringBuilder();
        for (int l = 0; l < 2; l++) {
            if (random.nextInt(3) != 0) {
                s.append("l").append(l).append(" ").append(between(1, 9)).append(" ").append(between(0, 9)).append(";");
            }
        }
        if (random.nextInt(3) == 0) {
            s.append("g").append(between(0, 1)).append(";");
        }
        if (random.nextInt(3) == 0) {
            s.append("n").append(between(0, 5)).append(";");
        }
        int waiters = random.nextInt(12) == 0 ? 0 : between(1, 6);
        int late = random.nextInt(8) == 0 ? 999 : between(5, 90);
        int early = late == 999 ? between(900, 999) : 0;
        for (int w = 0; w < waiters; w++) {
            s.append("w").append(between(0, 1)).append(" ").append(between(early, late)).append(" ").append(between(1, 30));
            s.append(" ").append(between(0, 99)).append(" ").append(between(1, random.nextBoolean() ? 9 : 2)).append(" ");
            s.append(between(0, 2)).append(" ").append(between(0, 1)).append(";");
        }
        return s.toString();
    }

    private String spoiled(String text) {
        StringBuilder s = new StringBuilder(text);
        int times = between(0, 3);
        for (int i = 0; i < times; i++) {
            int place = random.nextInt(s.length() + 1);
            char letter = MIXED.charAt(random.nextInt(MIXED.length()));
            int what = random.nextInt(4);
            if (what == 0 || place == s.length()) {
                s.insert(place, letter);
            } else if (what == 1) {
                s.deleteCharAt(place);
            } else if (what == 2) {
                s.setCharAt(place, letter);
            } else {
                s.append(someHouse());
            }
        }
        return s.toString();
    }

    private void texts(int runs) {
        fresh();
        for (int i = 0; i < runs; i++) {
            String text = spoiled(someHouse());
            // Two or three texts to an object: one leaves behind what the next one finds.
            if (calls + text.length() + 60 > MOST_CALLS) {
                fresh();
            }
            int waiters = tell(text);
            ask("fault");
            for (int what = 0; what <= 10; what++) {
                ask("told", what);
            }
            for (int w = 0; w < waiters; w++) {
                for (int what = 0; what <= 6; what++) {
                    ask("waiter", w, what);
                }
            }
        }
    }

    private void evenings(int runs) {
        for (int i = 0; i < runs; i++) {
            fresh();
            int waiters = tell(someHouse());
            for (int w = 0; w < waiters; w++) {
                for (int what = 0; what <= 5; what++) {
                    ask("pass", w, what);
                }
            }
            for (int l = 0; l < 2; l++) {
                for (int what = 0; what <= 3; what++) {
                    ask("leaf", l, what);
                }
                for (int t = 0; t < 40; t++) {
                    ask("leafAt", l, between(0, 250));
                }
            }
            for (int what = 5; what <= 10; what++) {
                ask("told", what);
            }
        }
    }

    private int someNumber() {
        int from = random.nextInt(10);
        if (from < 6) {
            return between(-1, 6);
        }
        return from < 8 ? between(0, 100) : EDGES[random.nextInt(EDGES.length)];
    }

    private void mixtures(int runs) {
        for (int i = 0; i < runs; i++) {
            fresh();
            tell(random.nextInt(20) == 0 ? "" : someHouse());
            int left = MOST_CALLS - calls;
            for (int j = 0; j < left; j++) {
                String[] call = CALLS[random.nextInt(CALLS.length)].split(" ");
                // The dear ones seldom, lest the model takes long.
                boolean dear = call[0].equals("best") || call[0].equals("change") || call[0].equals("order");
                if (dear && random.nextInt(8) != 0) {
                    continue;
                }
                int[] a = new int[Integer.parseInt(call[1])];
                for (int k = 0; k < a.length; k++) {
                    a[k] = someNumber();
                }
                ask(call[0], a);
            }
        }
    }

    private void numbers() {
        for (int q = -1; q <= 101; q++) {
            fresh();
            ask("stack", q);
            for (int r = -1; r <= 101; r++) {
                ask("unheard", q, r, 0);
                ask("unheard", q, r, 1);
            }
        }
        for (int q = -1; q <= 1001; q += q < 20 ? 1 : 49) {
            fresh();
            for (int left = -1; left <= 101; left += left < 3 ? 1 : 7) {
                ask("until", q, left);
            }
        }
    }
}
