/** What the tests share: counting wrong answers, and telling a house in one go. */
final class Checks {
    private int asked = 0;
    private int wrong = 0;

    void due(String call, long want, long got) {
        asked++;
        if (got != want) {
            wrong++;
            System.out.println(call + " answered " + got + ", due is " + want);
        }
    }

    void end() {
        System.out.println(asked + " answers, " + wrong + " wrong");
        if (wrong != 0) {
            System.exit(1);
        }
    }

    static void feedAll(SwingLeaves x, String text) {
        for (int i = 0; i < text.length(); i++) {
            x.feed(text.charAt(i));
        }
    }

    static SwingLeaves houseOf(String text) {
        SwingLeaves x = new SwingLeaves();
        feedAll(x, text);
        if (x.house() < 0) {
            throw new IllegalStateException("a fault in " + text + " at " + x.fault());
        }
        return x;
    }
}
