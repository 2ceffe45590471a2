/** What the tests share: answers that are due are counted, and laws are told by their texts. */
final class Checks {
    static final int UNKNOWN = -1;
    static final int OUTSIDE = -2;
    static final int STATE = -3;
    static final int FULL = -4;
    static final int NO = -5;
    static final int NONE = -6;

    private static int asked = 0;
    private static int wrong = 0;

    private Checks() { }

    static void due(String call, long want, long got) {
        asked++;
        if (got == want) return;
        wrong++;
        System.out.println(call + " answered " + got + ", due is " + want);
    }

    static void say(BetweenLaws x, String text) {
        x.wipe();
        for (int i = 0; i < text.length(); i++) x.say(text.charAt(i));
    }

    /** A LAW more: its text is said and put in FORCE. */
    static int law(BetweenLaws x, int from, int till, String text) {
        say(x, text);
        int law = x.law(from, till);
        if (law < 0) due("law(" + from + ", " + till + ") of " + text, 0, law);
        return law;
    }

    static int anew(BetweenLaws x, int law, String text) {
        say(x, text);
        return x.anew(law);
    }

    /** Closes a test: the machine's exit code tells whether all answers were due. */
    static void close(String name) {
        System.out.println(name + ": " + asked + " answers asked, " + wrong + " not as due");
        if (wrong != 0 || asked == 0) System.exit(1);
    }
}
