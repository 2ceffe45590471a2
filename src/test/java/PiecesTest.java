/** Promises 12 to 19: PIECES, which LAW MEETS and GOVERNS them, and why not. */
public final class PiecesTest {
    private static final int UNKNOWN = Checks.UNKNOWN, OUTSIDE = Checks.OUTSIDE, FULL = Checks.FULL;
    private static final int NONE = Checks.NONE;
    private static final int A = 1, B = 2, C = 4;

    public static void main(String[] args) {
        piece();
        about();
        change();
        set();
        meetsInForce();
        meetsByTime();
        meetsRefused();
        why();
        whyByOrder();
        governsByOrder();
        governsBehind();
        governsJudged();
        those();
        thoseInRings();
        Checks.close("PiecesTest");
    }

    private static void due(String call, long want, long got) {
        Checks.due(call, want, got);
    }

    private static void piece() {
        BetweenLaws x = new BetweenLaws();
        int[][] outside = {{-1, 0}, {100, 0}, {0, -1}, {0, 32}, {Integer.MIN_VALUE, 0}, {0, Integer.MAX_VALUE}};
        for (int[] call : outside) due("12: piece(" + call[0] + ", " + call[1] + ")", OUTSIDE, x.piece(call[0], call[1]));
        due("12: piece(0, 31)", 0, x.piece(0, 31));
        due("12: piece(99, 0)", 1, x.piece(99, 0));
        for (int p = 2; p < 8; p++) due("12: piece", p, x.piece(p, p));
        due("12: the ninth", FULL, x.piece(0, 0));
        due("12: outside ahead of full", OUTSIDE, x.piece(100, 0));
        due("12: told(1)", 8, x.told(1));
        due("12: about(7, 3)", 7, x.about(7, 3));
    }

    private static void about() {
        BetweenLaws x = new BetweenLaws();
        due("13: about(0, 0)", UNKNOWN, x.about(0, 0));
        x.piece(40, 5);
        int[] first = {40, NONE, NONE, 5, NONE};
        for (int what = 0; what < 5; what++) due("13: about(0, " + what + ")", first[what], x.about(0, what));
        x.change(0, 1, 50);
        x.change(0, 2, 45);
        x.change(0, 3, 9);
        x.wish(0, 0);
        int[] then = {40, 50, 45, 9, 0};
        for (int what = 0; what < 5; what++) due("13: about(0, " + what + ")", then[what], x.about(0, what));
        due("13: about(0, 5)", OUTSIDE, x.about(0, 5));
        due("13: about(0, -1)", OUTSIDE, x.about(0, -1));
        due("13: unknown ahead of outside", UNKNOWN, x.about(1, 5));
        due("13: about(-1, 0)", UNKNOWN, x.about(-1, 0));
    }

    private static void change() {
        BetweenLaws x = new BetweenLaws();
        due("14: change(0, 1, 5)", UNKNOWN, x.change(0, 1, 5));
        x.piece(40, 5);
        for (int what = 1; what <= 2; what++) {
            due("14: not ahead of its first day", OUTSIDE, x.change(0, what, 39));
            due("14: a day", OUTSIDE, x.change(0, what, 100));
            due("14: a day", OUTSIDE, x.change(0, what, -2));
            due("14: -1: not", NONE, x.change(0, what, -1));
            due("14: its first day", NONE, x.change(0, what, 40));
            due("14: the last day", 40, x.change(0, what, 99));
            due("14: -1: not", 99, x.change(0, what, -1));
            due("14: it is not", NONE, x.about(0, what));
        }
        due("14: ended alone", NONE, x.change(0, 1, 60));
        due("14: judged may be ahead of it", NONE, x.change(0, 2, 50));
        due("14: ended stays", 60, x.about(0, 1));
        due("14: judged stays", 50, x.about(0, 2));
        due("14: marks", 5, x.change(0, 3, 31));
        due("14: marks", 31, x.change(0, 3, 0));
        due("14: marks", OUTSIDE, x.change(0, 3, 32));
        due("14: marks", OUTSIDE, x.change(0, 3, -1));
        due("14: marks stay", 0, x.about(0, 3));
        due("14: what", OUTSIDE, x.change(0, 0, 45));
        due("14: what", OUTSIDE, x.change(0, 4, 45));
        due("14: unknown ahead of outside", UNKNOWN, x.change(1, 4, -9));
        due("14: it began when it did", 40, x.about(0, 0));
    }

    private static void set() {
        BetweenLaws x = new BetweenLaws();
        for (int which = 0; which <= 2; which++) {
            due("15: set(" + which + ", 1)", 0, x.set(which, 1));
            for (int other = 0; other <= 2; other++) due("15: told", other == which ? 1 : 0, x.told(3 + other));
            due("15: set(" + which + ", 1)", 1, x.set(which, 1));
            due("15: v", OUTSIDE, x.set(which, 2));
            due("15: v", OUTSIDE, x.set(which, -1));
            due("15: set(" + which + ", 0)", 1, x.set(which, 0));
            due("15: told", 0, x.told(3 + which));
        }
        due("15: which", OUTSIDE, x.set(3, 0));
        due("15: which", OUTSIDE, x.set(-1, 0));
    }

    private static void meetsInForce() {
        BetweenLaws x = new BetweenLaws();
        Checks.law(x, 10, 20, "a:1|bc:2/a");
        Checks.law(x, 15, 17, "e:1/u0");
        x.piece(12, A);
        int[][] days = {{9, 0}, {10, 0}, {11, 0}, {12, 1}, {14, 1}, {15, 0}, {16, 0}, {17, 1}, {19, 1}, {20, 0}};
        for (int[] day : days) due("16: meets(0, 0, " + day[0] + ")", day[1], x.meets(0, 0, day[0]));
        int[][] marks = {{0, 0}, {A, 1}, {B, 0}, {C, 0}, {B + C, 1}, {A + B, 1}, {8, 0}, {16 + C + B, 1}, {31, 1}};
        for (int[] set : marks) {
            x.change(0, 3, set[0]);
            due("16: marks " + set[0], set[1], x.meets(0, 0, 13));
        }
        x.change(0, 3, 0);
        Checks.anew(x, 0, "a:1|*:2/a");
        due("16: * fits all", 1, x.meets(0, 0, 13));
        due("16: it is not in force later", 0, x.meets(0, 0, 30));
        x.change(0, 2, 13);
        due("16: a later day tells what the day it was judged on does", 1, x.meets(0, 0, 30));
        x.change(0, 2, 16);
        due("16: undone on that day", 0, x.meets(0, 0, 30));
        due("16: not ahead of that", 1, x.meets(0, 0, 14));
    }

    /** For pieces of several days: what each TIME answers, without and with w. */
    private static void meetsByTime() {
        int[][] pieces = {{10, NONE}, {11, NONE}, {9, NONE}, {9, 10}, {9, 9}, {5, 8}, {10, 10}, {5, 50}};
        String[] words = {"", "/n", "/h", "/a", "/w", "/n,w", "/h,w", "/a,w"};
        int[][] meets = {
            {1, 1, 0, 0, 0, 0, 1, 0}, {1, 1, 0, 0, 0, 0, 1, 0}, {1, 1, 1, 1, 0, 0, 1, 1}, {1, 1, 1, 1, 1, 1, 1, 1},
            {1, 1, 0, 0, 0, 0, 1, 0}, {1, 1, 0, 0, 0, 0, 1, 0}, {1, 1, 1, 1, 0, 0, 1, 1}, {1, 1, 1, 1, 0, 0, 1, 1}};
        for (int w = 0; w < words.length; w++) {
            BetweenLaws x = new BetweenLaws();
            Checks.law(x, 10, 20, "*:1" + words[w]);
            for (int p = 0; p < pieces.length; p++) {
                x.piece(pieces[p][0], 0);
                if (pieces[p][1] != NONE) x.change(p, 1, pieces[p][1]);
                due("16: *:1" + words[w] + " and piece " + p, meets[w][p], x.meets(0, p, 15));
                due("17: *:1" + words[w] + " and piece " + p, meets[w][p] == 1 ? 0 : 5, x.why(0, p, 15));
            }
        }
    }

    private static void meetsRefused() {
        BetweenLaws x = new BetweenLaws();
        due("16: no law", UNKNOWN, x.meets(0, 0, 0));
        due("17: no law", UNKNOWN, x.why(0, 0, 0));
        due("18: no piece", UNKNOWN, x.governs(0, 0));
        Checks.law(x, 10, 20, "*:1");
        due("16: no piece", UNKNOWN, x.meets(0, 0, 100));
        due("17: no piece", UNKNOWN, x.why(0, 0, 100));
        x.piece(0, 0);
        due("16: unknown ahead of outside", UNKNOWN, x.meets(1, 0, 100));
        due("17: unknown ahead of outside", UNKNOWN, x.why(-1, 0, 100));
        due("18: unknown ahead of outside", UNKNOWN, x.governs(1, 100));
        for (int day = -1; day <= 100; day += 101) {
            due("16: day", OUTSIDE, x.meets(0, 0, day));
            due("17: day", OUTSIDE, x.why(0, 0, day));
            due("18: day", OUTSIDE, x.governs(0, day));
        }
    }

    private static void why() {
        BetweenLaws x = new BetweenLaws();
        Checks.law(x, 10, 60, "a:1");
        Checks.law(x, 40, 50, "b:2/u0");
        x.piece(30, A);
        due("17: not in force", 1, x.why(0, 0, 9));
        due("17: not begun", 3, x.why(0, 0, 29));
        due("17: it governs", 0, x.why(0, 0, 30));
        due("17: undone", 2, x.why(0, 0, 40));
        due("17: no case", 4, x.why(1, 0, 40));
        due("17: it governs", 0, x.why(0, 0, 50));
        due("17: no longer in force", 1, x.why(0, 0, 60));
        x.piece(45, 0);
        due("17: undone ahead of not begun", 2, x.why(0, 1, 44));
        due("17: not begun ahead of no case", 3, x.why(1, 1, 44));
        x.piece(5, 0);
        due("17: no case ahead of time", 4, x.why(0, 2, 20));
        x.change(2, 3, A);
        due("17: by time", 5, x.why(0, 2, 20));
        x.change(0, 2, 45);
        due("17: judged when it was undone", 2, x.why(0, 0, 99));
    }

    private static void whyByOrder() {
        BetweenLaws x = new BetweenLaws();
        Checks.law(x, 0, 100, "*:1/a");
        Checks.law(x, 0, 100, "a:2/a");
        x.piece(0, A);
        due("17: another one governs", 6, x.why(0, 0, 0));
        due("17: this one", 0, x.why(1, 0, 0));
        x.change(0, 3, 0);
        due("17: this one", 0, x.why(0, 0, 0));
        due("17: no case", 4, x.why(1, 0, 0));
        BetweenLaws y = new BetweenLaws();
        Checks.law(y, 0, 10, "*:1/n");
        Checks.law(y, 20, 100, "*:2/n");
        y.piece(5, 0);
        due("17: none governs", 1, y.why(0, 0, 30));
        y.set(1, 1);
        due("17: it governs behind", 0, y.why(0, 0, 30));
        due("17: by time though another one governs", 5, y.why(1, 0, 30));
    }

    private static void governsByOrder() {
        BetweenLaws x = new BetweenLaws();
        due("18: no piece", UNKNOWN, x.governs(0, 0));
        x.piece(50, A + B);
        due("18: no laws", NONE, x.governs(0, 50));
        Checks.law(x, 10, 100, "ab:1/a");
        Checks.law(x, 20, 100, "a:2/a");
        Checks.law(x, 20, 100, "*:3|a:9/a");
        Checks.law(x, 20, 90, "b:4/a");
        due("18: not begun", NONE, x.governs(0, 49));
        due("18: the latest, then more marks, then the least number", 1, x.governs(0, 50));
        x.set(0, 1);
        due("18: more marks", 0, x.governs(0, 50));
        x.change(0, 3, A);
        due("18: no marks count of what does not fit first", 1, x.governs(0, 50));
        x.change(0, 3, B);
        due("18: law 3 has a mark", 3, x.governs(0, 50));
        due("18: it is out of force", 2, x.governs(0, 90));
        x.set(0, 0);
        due("18: the latest of those that fit", 3, x.governs(0, 50));
        x.change(0, 3, 0);
        due("18: * alone", 2, x.governs(0, 50));
        x.change(0, 3, A + B);
        x.move(0, 0, 21);
        due("18: the latest", 0, x.governs(0, 50));
        x.set(0, 1);
        x.move(1, 0, 30);
        Checks.anew(x, 0, "a:1/a");
        due("18: of like marks the latest", 1, x.governs(0, 50));
    }

    private static void governsBehind() {
        BetweenLaws x = new BetweenLaws();
        Checks.law(x, 0, 10, "a:1/w");
        Checks.law(x, 5, 10, "a:2/n");
        Checks.law(x, 20, 30, "a:3/n");
        x.piece(7, A);
        due("18: in force", 1, x.governs(0, 9));
        due("18: none", NONE, x.governs(0, 10));
        x.set(1, 1);
        due("18: behind, by order", 1, x.governs(0, 10));
        due("18: behind, though one is in force", 1, x.governs(0, 25));
        due("18: not begun", NONE, x.governs(0, 6));
        x.change(0, 3, 0);
        due("18: no case fits", NONE, x.governs(0, 10));
        x.change(0, 3, A);
        Checks.anew(x, 2, "a:3/n,u1");
        due("18: not undone now", 0, x.governs(0, 25));
        due("18: it is not undone behind that", 1, x.governs(0, 30));
        Checks.anew(x, 2, "a:3/h");
        due("18: one meets it", 2, x.governs(0, 25));
        x.move(1, 0, 8);
        due("18: in force on the day it began", 0, x.governs(0, 15));
        BetweenLaws y = new BetweenLaws();
        Checks.law(y, 0, 10, "*:1/u1");
        Checks.law(y, 0, 10, "*:2/n");
        y.piece(3, 0);
        y.set(1, 1);
        due("18: undone then", 0, y.governs(0, 5));
        due("18: what was undone then is not now", 0, y.governs(0, 50));
        due("19: two behind", 1, y.those(50, 0));
        due("19: not two then", 0, y.those(5, 0));
    }

    private static void governsJudged() {
        BetweenLaws x = new BetweenLaws();
        Checks.law(x, 0, 100, "*:1/a");
        Checks.law(x, 50, 100, "*:2/a");
        x.piece(10, 0);
        due("18: later", 1, x.governs(0, 60));
        x.change(0, 2, 49);
        due("18: as on the day it was judged", 0, x.governs(0, 60));
        due("17: not in force then", 1, x.why(1, 0, 60));
        due("18: ahead of that", 0, x.governs(0, 20));
        due("18: not begun", NONE, x.governs(0, 9));
        x.change(0, 2, 50);
        due("18: as on the day it was judged", 1, x.governs(0, 60));
        due("18: ahead of that", 0, x.governs(0, 49));
        x.change(0, 2, -1);
        due("18: not judged", 1, x.governs(0, 99));
    }

    private static void those() {
        BetweenLaws x = new BetweenLaws();
        due("19: no pieces", 0, x.those(0, 3));
        Checks.law(x, 0, 50, "a:1|b:2/a");
        Checks.law(x, 0, 40, "ab:3|a:4/a");
        x.piece(10, A);
        x.piece(20, B);
        x.piece(30, 0);
        x.piece(60, A + B);
        due("19: begun", 0, x.those(9, 3));
        due("19: begun", 1, x.those(10, 3));
        due("19: begun", 7, x.those(59, 3));
        due("19: begun", 15, x.those(60, 3));
        due("19: two", 1, x.those(39, 0));
        due("19: no longer", 0, x.those(40, 0));
        due("19: not begun", 0, x.those(9, 0));
        due("19: none governs", 4, x.those(39, 1));
        due("19: none governs, of begun ones", 7, x.those(59, 1));
        due("19: not begun ones", 0, x.those(9, 1));
        x.change(0, 2, 45);
        due("19: judged when one governed", 6, x.those(59, 1));
        x.change(0, 2, 30);
        due("19: judged when it was two", 1, x.those(59, 0));
        Checks.law(x, 0, 100, "*:5/a");
        due("19: a like one with fewer marks does not count", 1, x.those(39, 0));
        x.set(0, 1);
        x.move(1, 0, 1);
        due("19: not alike in both", 0, x.those(39, 0));
        int[][] outside = {{-1, 0}, {100, 0}, {0, 4}, {0, -1}};
        for (int[] call : outside) due("19: outside", OUTSIDE, x.those(call[0], call[1]));
    }

    private static void thoseInRings() {
        BetweenLaws x = new BetweenLaws();
        Checks.law(x, 0, 50, "a:@1|*:@7/a");
        Checks.law(x, 60, 70, "*:@0/a");
        Checks.law(x, 40, 45, "d:0/u1");
        x.piece(10, A);
        x.piece(10, 0);
        x.piece(20, A);
        due("19: rings", 1, x.those(10, 2));
        due("19: rings", 5, x.those(20, 2));
        due("19: no ring by what is undone", 0, x.those(40, 2));
        due("19: none governs", 0, x.those(50, 2));
        x.change(2, 2, 49);
        due("19: judged in one", 4, x.those(50, 2));
    }
}
