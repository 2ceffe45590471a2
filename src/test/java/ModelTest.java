/** Long runs of calls, the same ones each time, on BetweenLaws and on Model: all answers must be alike. */
public final class ModelTest {
    private static final int CALLS = 512;
    private static final String[] QUESTIONS = {"fault", "of", "part", "force", "open", "about", "meets", "why", "governs",
        "those", "gives", "route", "sum", "passage", "term", "whole", "taken", "brief", "caught", "read", "ways", "hangs",
        "mend", "all", "told"};
    private static final String[] CHANGES = {"piece", "piece", "change", "change", "change", "set", "wish", "wish", "move",
        "move", "set", "set", "image", "restore", "wipe", "law", "anew"};
    private static final String SIGNS = "abcde*:|/@?,nhawtcblu0123456789xz!~";
    private static final int[] ODD = {-1, -2, 8, 99, 100, 101, 31, 32, 255, 256, Integer.MIN_VALUE, Integer.MAX_VALUE};

    private static long seed;
    private static int calls;

    public static void main(String[] args) {
        int runs = args.length > 0 ? Integer.parseInt(args[0]) : 150;
        int first = args.length > 1 ? Integer.parseInt(args[1]) : 1;
        for (int run = first; run < first + runs; run++) run(run);
        Checks.close("ModelTest");
    }

    private static void run(int run) {
        seed = run * 7919L + 17;
        BetweenLaws x = new BetweenLaws();
        Model model = new Model();
        int days = 4 + below(97);
        calls = 0;
        if (run % 4 != 0) prepare(run, x, model, days);
        while (calls < CALLS) {
            if (below(40) == 0) {
                sayText(run, x, model, days);
            } else {
                boolean change = below(4) == 0;
                String name = change ? CHANGES[below(CHANGES.length)] : QUESTIONS[below(QUESTIONS.length)];
                ask(run, x, model, name, arguments(name, days));
            }
        }
    }

    /** LAWS and PIECES to begin with, kept in IMAGES, so that most calls find some. */
    private static void prepare(int run, BetweenLaws x, Model model, int days) {
        int laws = 2 + below(7);
        for (int law = 0; law < laws; law++) {
            String text = text();
            for (int i = 0; i < text.length(); i++) ask(run, x, model, "say", new int[] {text.charAt(i), 0, 0});
            ask(run, x, model, "law", usual("law", days));
        }
        int pieces = 2 + below(7);
        for (int piece = 0; piece < pieces; piece++) {
            ask(run, x, model, "piece", usual("piece", days));
            ask(run, x, model, "change", new int[] {piece, 1 + below(2), below(days)});
        }
        for (int n = 0; n < 2; n++) {
            ask(run, x, model, "image", new int[] {n, 0, 0});
            ask(run, x, model, "set", new int[] {below(3), 1, 0});
        }
    }

    /** Says a text, mostly one that stands, and mostly makes a LAW of it. */
    private static void sayText(int run, BetweenLaws x, Model model, int days) {
        StringBuilder text = new StringBuilder(text());
        int spoilt = below(4) == 0 ? 1 + below(2) : 0;
        for (int i = 0; i < spoilt; i++) text.setCharAt(below(text.length()), SIGNS.charAt(below(SIGNS.length())));
        if (below(8) == 0) text.setLength(below(text.length() + 1));
        if (below(8) == 0) text.append(SIGNS.charAt(below(SIGNS.length())));
        if (below(3) != 0) ask(run, x, model, "wipe", new int[3]);
        for (int i = 0; i < text.length(); i++) ask(run, x, model, "say", new int[] {text.charAt(i), 0, 0});
        if (below(3) == 0) ask(run, x, model, "fault", new int[3]);
        String name = below(4) == 0 ? "anew" : "law";
        ask(run, x, model, name, arguments(name, days));
    }

    private static String text() {
        StringBuilder text = new StringBuilder();
        int cases = 1 + below(below(3) == 0 ? 6 : 3);
        for (int c = 0; c < cases; c++) {
            if (c > 0) text.append('|');
            int marks = below(4) == 0 || c == cases - 1 && below(3) != 0 ? 0 : 1 + below(31) & (1 + below(31));
            for (int m = 0; m < 5; m++) if ((marks >> m & 1) != 0) text.append((char) ('a' + m));
            text.append(marks == 0 ? "*:" : ":");
            if (below(3) == 0) text.append('@').append(below(below(2) == 0 ? 8 : 4));
            else text.append(below(below(3) == 0 ? 100 : 10));
        }
        StringBuilder words = new StringBuilder();
        if (below(4) != 0) words.append(',').append(letters("nhaa"));
        if (below(4) == 0) words.append(",w");
        if (below(2) == 0) words.append(",t").append(below(below(2) == 0 ? 100 : 20)).append(letters("cbl"));
        while (below(3) == 0 && words.length() < 20) words.append(",u").append(below(8));
        return words.length() == 0 ? text.toString() : text.append('/').append(words.substring(1)).toString();
    }

    private static String letters(String of) {
        char one = of.charAt(below(of.length()));
        char other = of.charAt(below(of.length()));
        return one == other || below(3) == 0 ? String.valueOf(one) : one + "?" + other;
    }

    private static int[] arguments(String name, int days) {
        int[] all = usual(name, days);
        if (below(20) == 0) all[below(3)] = ODD[below(ODD.length)];
        return all;
    }

    private static int[] usual(String name, int days) {
        int it = below(below(3) == 0 ? 8 : 3);
        int day = below(days);
        switch (name) {
            case "law": return new int[] {day, Math.min(100, day + 1 + below(days)), 0};
            case "anew": case "taken": case "caught": return new int[] {it, 0, 0};
            case "move": return new int[] {it, below(2), below(days + 1)};
            case "of": return new int[] {it, below(10), 0};
            case "part": return new int[] {it, below(4), below(2)};
            case "force": return new int[] {day, below(3), 0};
            case "open": return new int[] {below(10) - 1, 0, 0};
            case "piece": return new int[] {day, below(32), 0};
            case "about": return new int[] {it, below(5), 0};
            case "change": return change(it, days);
            case "set": return new int[] {below(3), below(2), 0};
            case "meets": case "why": return new int[] {it, below(8), day};
            case "those": return new int[] {day, below(4), 0};
            case "route": case "passage": return new int[] {it, name.equals("route") ? day : below(6) - 1,
                name.equals("route") ? below(5) - 1 : below(2)};
            case "term": return new int[] {it, day, below(2)};
            case "whole": return new int[] {it, below(4), 0};
            case "sum": return new int[] {day, 0, 0};
            case "brief": case "image": case "restore": return new int[] {below(2), 0, 0};
            case "read": return new int[] {it, day, below(256)};
            case "hangs": case "all": return new int[] {day, below(2), 0};
            case "wish": return new int[] {it, below(below(3) == 0 ? 100 : 11) - 1, 0};
            case "mend": return new int[] {it, day, below(4)};
            case "told": return new int[] {below(6), 0, 0};
            default: return new int[] {it, day, 0};
        }
    }

    private static int[] change(int it, int days) {
        int what = 1 + below(3);
        return new int[] {it, what, what == 3 ? below(32) : below(5) == 0 ? -1 : below(days)};
    }

    /** What an object answers behind its last call is free: none is asked any more. */
    private static void ask(int run, BetweenLaws x, Model model, String name, int[] a) {
        if (calls == CALLS) return;
        calls++;
        String call = "run " + run + ": " + name + "(" + a[0] + ", " + a[1] + ", " + a[2] + ")";
        Checks.due(call, model.answer(name, a[0], a[1], a[2]), Calls.answer(x, name, a[0], a[1], a[2]));
    }

    /** A number below n, from a row of numbers that is always the same. */
    private static int below(int n) {
        seed = seed * 6364136223846793005L + 1442695040888963407L;
        return (int) ((seed >>> 33) % n);
    }
}
