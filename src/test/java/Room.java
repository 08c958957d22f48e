/** One object and the calls made on it, told as texts like "come(0, 999)"; nothing is promised behind the 512th call. */
final class Room {
    private static final int MOST_CALLS = 512;

    private final SwingLeaves x = new SwingLeaves();
    private int made = 0;

    /** A room in which this text has become the house. */
    static Room of(String text) {
        Room room = new Room();
        int answer = room.tell(text);
        if (answer < 0) {
            throw new IllegalStateException(answer + " for " + text);
        }
        return room;
    }

    Room feed(String text) {
        for (int i = 0; i < text.length(); i++) {
            call("feed", text.charAt(i));
        }
        return this;
    }

    int tell(String text) {
        feed(text);
        return call("house");
    }

    int ask(String told) {
        int open = told.indexOf('(');
        String inside = told.substring(open + 1, told.indexOf(')')).trim();
        String[] words = inside.isEmpty() ? new String[0] : inside.split(", *");
        int[] a = new int[words.length];
        for (int i = 0; i < a.length; i++) {
            a[i] = numberOf(words[i]);
        }
        return call(told.substring(0, open), a);
    }

    Room after(String... calls) {
        for (String told : calls) {
            ask(told);
        }
        return this;
    }

    private static int numberOf(String word) {
        switch (word) {
            case "NONE": return SwingLeaves.NONE;
            case "LOW": return Integer.MIN_VALUE;
            case "HIGH": return Integer.MAX_VALUE;
            case "true": return 1;
            case "false": return 0;
            default: return Integer.parseInt(word);
        }
    }

    int call(String name, int... a) {
        made++;
        if (made > MOST_CALLS) {
            throw new IllegalStateException("a test makes more than " + MOST_CALLS + " calls");
        }
        return answer(x, name, a);
    }

    static int answer(SwingLeaves x, String name, int... a) {
        switch (name) {
            case "feed": return x.feed(a[0]);
            case "house": return x.house();
            case "fault": return x.fault();
            case "told": return x.told(a[0]);
            case "leaf": return x.leaf(a[0], a[1]);
            case "waiter": return x.waiter(a[0], a[1]);
            case "come": return x.come(a[0], a[1]);
            case "rule": return x.rule(a[0], a[1]);
            case "kick": return x.kick(a[0], a[1]);
            case "glass": return x.glass(a[0] != 0);
            case "noise": return x.noise(a[0]);
            case "drift": return x.drift(a[0]);
            case "pass": return x.pass(a[0], a[1]);
            case "leafAt": return x.leafAt(a[0], a[1]);
            case "write": return x.write(a[0], a[1]);
            case "tear": return x.tear();
            case "judge": return x.judge();
            case "seed": return x.seed(a[0]);
            case "keep": return x.keep(a[0]);
            case "goBack": return x.goBack(a[0]);
            default: return tried(x, name, a);
        }
    }

    private static int tried(SwingLeaves x, String name, int... a) {
        switch (name) {
            case "all": return x.all(a[0]);
            case "best": return x.best(a[0]);
            case "bestKick": return x.bestKick(a[0], a[1]);
            case "change": return x.change(a[0], a[1], a[2]);
            case "worth": return x.worth(a[0], a[1]);
            case "apart": return x.apart(a[0], a[1]);
            case "order": return x.order(a[0], a[1]);
            case "rests": return x.rests(a[0], a[1]);
            case "stack": return x.stack(a[0]);
            case "until": return x.until(a[0], a[1]);
            case "unheard": return x.unheard(a[0], a[1], a[2]);
            case "learns": return x.learns(a[0], a[1]);
            default: throw new IllegalStateException(name);
        }
    }
}
