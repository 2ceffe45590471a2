/** Promises 26 to 37: TAKEN, BRIEF, CAUGHT, READINGS, WISHES, MENDING, ALL PIECES, IMAGES, told. */
public final class WordsTest {
    private static final int UNKNOWN = Checks.UNKNOWN, OUTSIDE = Checks.OUTSIDE, STATE = Checks.STATE;
    private static final int NO = Checks.NO, NONE = Checks.NONE;
    private static final int A = 1, B = 2;

    public static void main(String[] args) {
        taken();
        brief();
        caught();
        read();
        readOnlyTheFirstEight();
        ways();
        firstWord();
        hangs();
        wish();
        mendTime();
        mendW();
        mendUndoing();
        mendInOrder();
        mendRefused();
        all();
        allAnswers();
        allWithSettings();
        image();
        told();
        eightOfEach();
        Checks.close("WordsTest");
    }

    private static void due(String call, long want, long got) {
        Checks.due(call, want, got);
    }

    private static void taken() {
        BetweenLaws x = new BetweenLaws();
        due("26: no law", UNKNOWN, x.taken(0));
        Checks.law(x, 20, 30, "a:1/a");
        due("26: no pieces", 0, x.taken(0));
        int[][] pieces = {{10, 19, A}, {10, 20, A}, {10, NONE, A}, {10, 19, B}, {25, 26, A}, {0, 0, A + B}};
        for (int p = 0; p < pieces.length; p++) {
            x.piece(pieces[p][0], pieces[p][2]);
            if (pieces[p][1] != NONE) x.change(p, 1, pieces[p][1]);
        }
        due("26: ended ahead of its first day", 33, x.taken(0));
        x.change(5, 2, 19);
        due("26: judged ahead of that", 1, x.taken(0));
        x.change(5, 2, 20);
        due("26: judged on that", 33, x.taken(0));
        Checks.law(x, 20, 21, "ab:2/a");
        due("26: another one governs", 1, x.taken(0));
        due("26: that one", 32, x.taken(1));
        x.move(1, 0, 19);
        due("26: it goes by the new day", 32, x.taken(1));
        x.move(1, 0, 0);
        due("26: ahead of which none had ended", 0, x.taken(1));
        due("26: on its own first day", 33, x.taken(0));
        Checks.anew(x, 0, "a:1/h");
        due("26: by time", 0, x.taken(0));
        due("26: no law", UNKNOWN, x.taken(2));
        due("26: no law", UNKNOWN, x.taken(-1));
    }

    private static void brief() {
        BetweenLaws x = new BetweenLaws();
        due("27: no laws", STATE, x.brief(0));
        due("27: outside ahead of state", OUTSIDE, x.brief(2));
        Checks.law(x, 10, 40, "*:1");
        due("27: one", 0, x.brief(0));
        due("27: its days", 30, x.brief(1));
        Checks.law(x, 90, 100, "*:1");
        Checks.law(x, 0, 10, "*:1");
        due("27: the least such", 1, x.brief(0));
        due("27: its days", 10, x.brief(1));
        x.move(2, 1, 9);
        due("27: fewest", 2, x.brief(0));
        due("27: its days", 9, x.brief(1));
        due("27: what", OUTSIDE, x.brief(-1));
    }

    private static void caught() {
        BetweenLaws x = new BetweenLaws();
        due("28: no law", UNKNOWN, x.caught(0));
        Checks.law(x, 20, 30, "*:1/a");
        Checks.law(x, 25, 30, "a:2/a");
        Checks.law(x, 99, 100, "b:3/a");
        x.piece(0, A);
        x.piece(25, A);
        x.piece(29, 0);
        x.piece(30, A + B);
        x.piece(99, B);
        due("28: law 0", 5, x.caught(0));
        due("28: law 1", 3, x.caught(1));
        due("28: law 2, on the last day", 24, x.caught(2));
        x.change(0, 2, 24);
        due("28: judged ahead of that", 2, x.caught(1));
        due("28: law 0", 5, x.caught(0));
        x.change(0, 2, 19);
        due("28: judged ahead of that", 4, x.caught(0));
        x.change(0, 2, 20);
        due("28: judged on that day", 5, x.caught(0));
        Checks.law(x, 26, 27, "e:9/u1");
        x.move(0, 0, 0);
        due("28: on the day another one is undone", 7, x.caught(0));
        due("28: no law", UNKNOWN, x.caught(4));
        due("28: no law", UNKNOWN, x.caught(-1));
    }

    private static void read() {
        BetweenLaws x = new BetweenLaws();
        due("29: no piece", UNKNOWN, x.read(0, 0, 0));
        Checks.law(x, 0, 100, "*:1/a,t5c?b");
        Checks.law(x, 20, 100, "*:2/n?a");
        Checks.law(x, 30, 100, "b:@2|*:3/a?h");
        x.piece(10, A);
        due("29: by the first letters", 3, x.read(0, 50, 0));
        due("29: a way changes nothing", 3, x.read(0, 50, 1));
        due("29: law 2 still", 3, x.read(0, 50, 2));
        due("29: bits of no word", 3, x.read(0, 50, 248));
        x.change(0, 1, 15);
        due("29: law 2 by h", 1, x.read(0, 50, 4));
        due("29: law 1 by a, law 2 by h", 2, x.read(0, 50, 6));
        due("29: all", 2, x.read(0, 50, 255));
        due("29: all else is told by reading 0", 3, x.gives(0, 50));
        due("29: all else is told by reading 0", 2, x.governs(0, 50));
        due("29: the letters stay", 'a', x.of(2, 3));
        x.change(0, 3, B);
        due("29: a ring", STATE, x.read(0, 50, 0));
        due("29: no ring by h", 1, x.read(0, 50, 4));
        due("29: none", NONE, x.read(0, 9, 4));
        x.set(2, 1);
        due("29: the milder one", 1, x.read(0, 50, 6));
        x.change(0, 2, 19);
        due("29: judged", 1, x.read(0, 50, 0));
        due("29: reading", OUTSIDE, x.read(0, 50, 256));
        due("29: reading", OUTSIDE, x.read(0, 50, -1));
        due("29: day", OUTSIDE, x.read(0, 100, 0));
        due("29: unknown ahead of outside", UNKNOWN, x.read(1, 100, 256));
    }

    private static void readOnlyTheFirstEight() {
        BetweenLaws x = new BetweenLaws();
        for (int law = 0; law < 3; law++) Checks.law(x, 0, 1, "*:1/a?n,t1c?b");
        Checks.law(x, 50, 100, "*:4/n,t1c?b");
        Checks.law(x, 50, 100, "a:5/n?a");
        Checks.law(x, 50, 100, "a:6|b:6/n?a");
        x.piece(10, A);
        x.piece(10, B);
        due("29: how many", 9, x.open(-1));
        due("29: the eighth", 5, x.read(0, 60, 128));
        due("29: the ninth is read by its first letter", NONE, x.read(1, 60, 255));
        due("30: the eighth", 2, x.ways(0, 60));
        due("30: the ninth", 1, x.ways(1, 60));
        due("31: the eighth", 7, x.hangs(60, 0));
        due("31: the eighth", 1, x.hangs(60, 1));
        x.change(0, 3, B);
        due("31: not the ninth", 0, x.hangs(60, 0));
        due("31: not the ninth", 0, x.hangs(60, 1));
    }

    private static void ways() {
        BetweenLaws x = new BetweenLaws();
        due("30: no piece", UNKNOWN, x.ways(0, 0));
        x.piece(10, A);
        due("30: none alone", 1, x.ways(0, 50));
        Checks.law(x, 0, 100, "*:1/a?n");
        due("30: it began later", 1, x.ways(0, 50));
        Checks.law(x, 20, 100, "*:2/n?a");
        Checks.law(x, 30, 100, "*:@2/n?a");
        due("30: 1, 2, a ring", 3, x.ways(0, 50));
        due("30: 1, 2", 2, x.ways(0, 29));
        due("30: 1", 1, x.ways(0, 19));
        due("30: not begun", 1, x.ways(0, 9));
        Checks.law(x, 40, 100, "*:2/n?h");
        Checks.law(x, 40, 100, "*:@7/n?h,t7c?b");
        due("30: 1, 2, a ring, none", 4, x.ways(0, 50));
        due("30: it is told as ever", 1, x.gives(0, 50));
        x.change(0, 2, 29);
        due("30: judged", 2, x.ways(0, 50));
        due("30: unknown ahead of outside", UNKNOWN, x.ways(1, 100));
        due("30: day", OUTSIDE, x.ways(0, 100));
        due("30: day", OUTSIDE, x.ways(0, -1));
    }

    private static void firstWord() {
        BetweenLaws x = new BetweenLaws();
        Checks.law(x, 20, 100, "*:2/a?n");
        x.piece(10, A);
        due("29: by the first letter", 2, x.read(0, 50, 0));
        due("29: by the second letter", NONE, x.read(0, 50, 1));
        due("29: it is told as ever", 2, x.gives(0, 50));
        due("30: both", 2, x.ways(0, 50));
        due("30: it is told as ever", 2, x.gives(0, 50));
        due("31: on that", 0, x.hangs(50, 0));
        due("31: one piece", 1, x.hangs(50, 1));
        due("31: it is told as ever", 2, x.gives(0, 50));
        Checks.anew(x, 0, "*:2/a");
        due("31: there is none any more", NONE, x.hangs(50, 0));
        due("31: so no piece hangs on it", 0, x.hangs(50, 1));
    }

    private static void hangs() {
        BetweenLaws x = new BetweenLaws();
        due("31: there is none", NONE, x.hangs(0, 0));
        due("31: no pieces", 0, x.hangs(0, 1));
        Checks.law(x, 0, 100, "*:1/a,t5c?b");
        Checks.law(x, 50, 100, "a:2/n?a");
        Checks.law(x, 50, 100, "ab:3|b:3|c:1/n?h");
        due("31: the least, with no pieces", 0, x.hangs(60, 0));
        x.piece(10, A);
        x.piece(10, B);
        due("31: word 1 and word 2 alike", 1, x.hangs(60, 0));
        due("31: one piece", 1, x.hangs(60, 1));
        x.piece(20, A + B);
        x.piece(20, 4);
        due("31: alike again, what gives the same does not count", 1, x.hangs(60, 0));
        due("31: two pieces", 2, x.hangs(60, 1));
        x.change(0, 1, 20);
        x.change(0, 3, B);
        due("31: it had ended, so word 2 alone", 2, x.hangs(60, 0));
        due("31: two pieces", 2, x.hangs(60, 1));
        x.change(0, 1, 50);
        due("31: three pieces", 2, x.hangs(60, 0));
        due("31: three pieces", 3, x.hangs(60, 1));
        due("31: ahead of that, the least", 0, x.hangs(49, 0));
        due("31: ahead of that, none", 0, x.hangs(49, 1));
        for (int p = 0; p < 3; p++) x.change(p, 2, 49);
        due("31: judged", 0, x.hangs(60, 1));
        int[][] outside = {{-1, 0}, {100, 0}, {0, 2}, {0, -1}};
        for (int[] call : outside) due("31: outside", OUTSIDE, x.hangs(call[0], call[1]));
    }

    private static void wish() {
        BetweenLaws x = new BetweenLaws();
        due("32: no piece", UNKNOWN, x.wish(0, 0));
        x.piece(0, 0);
        due("32: wish(0, 99)", NONE, x.wish(0, 99));
        due("32: wish(0, 0)", 99, x.wish(0, 0));
        due("32: about(0, 4)", 0, x.about(0, 4));
        due("32: wish(0, -1)", 0, x.wish(0, -1));
        due("32: wish(0, -1)", NONE, x.wish(0, -1));
        due("32: v", OUTSIDE, x.wish(0, 100));
        due("32: v", OUTSIDE, x.wish(0, -2));
        due("32: unknown ahead of outside", UNKNOWN, x.wish(1, 100));
    }

    private static void mended(String name, BetweenLaws x, int law, int day, int[] want) {
        for (int what = 0; what < 4; what++) {
            due("33: " + name + ": mend(" + law + ", " + day + ", " + what + ")", want[what], x.mend(law, day, what));
        }
    }

    private static void unmended(String name, BetweenLaws x, int law, int day) {
        mended(name, x, law, day, new int[] {NO, NO, NO, NO});
    }

    private static void mendTime() {
        BetweenLaws x = new BetweenLaws();
        Checks.law(x, 0, 100, "*:1/a");
        Checks.law(x, 50, 100, "*:2");
        x.piece(10, 0);
        x.piece(60, 0);
        mended("no wishes", x, 1, 60, new int[] {0, 'n', 0, NONE});
        x.wish(0, 1);
        mended("it is so", x, 1, 60, new int[] {0, 'n', 0, NONE});
        x.wish(0, 2);
        mended("time", x, 1, 60, new int[] {1, 'h', 0, NONE});
        x.change(0, 1, 49);
        mended("time", x, 1, 60, new int[] {1, 'a', 0, NONE});
        due("33: the law stays", 'n', x.of(1, 3));
        due("33: what it gives stays", 1, x.gives(0, 60));
        unmended("not yet in force", x, 1, 49);
        unmended("another law", x, 0, 60);
        x.wish(0, 3);
        unmended("no law gives that", x, 1, 60);
        x.wish(0, 2);
        x.piece(20, 0);
        x.change(2, 1, 49);
        unmended("another piece would change", x, 1, 60);
        x.wish(2, 2);
        mended("it is wished, too", x, 1, 60, new int[] {1, 'a', 0, NONE});
        x.wish(2, -1);
        x.change(2, 2, 49);
        mended("judged ahead of that", x, 1, 60, new int[] {1, 'a', 0, NONE});
        Checks.anew(x, 1, "*:2/n?a,t9c?b");
        mended("open", x, 1, 60, new int[] {1, 'a', 0, NONE});
        x.wish(0, -1);
        mended("open is unlike all", x, 1, 60, new int[] {1, 'n', 0, NONE});
        due("33: it is open still", 'a', x.of(1, 4));
    }

    private static void mendW() {
        BetweenLaws x = new BetweenLaws();
        Checks.law(x, 0, 100, "*:1/a");
        Checks.law(x, 50, 100, "*:2/a");
        x.piece(10, 0);
        x.piece(10, 0);
        x.change(0, 1, 49);
        mended("as it is", x, 1, 60, new int[] {0, 'a', 0, NONE});
        x.wish(0, 1);
        mended("h is ahead of w", x, 1, 60, new int[] {1, 'h', 0, NONE});
        Checks.anew(x, 1, "*:2/a,w");
        x.wish(0, 2);
        mended("without w", x, 1, 60, new int[] {1, 'a', 0, NONE});
        x.wish(0, -1);
        mended("with w as it is", x, 1, 60, new int[] {0, 'a', 1, NONE});
        due("33: it has it still", 1, x.of(1, 5));
        Checks.anew(x, 1, "*:2/n,w");
        x.wish(0, 2);
        x.wish(1, 2);
        mended("time, without w", x, 1, 60, new int[] {2, 'a', 0, NONE});
        x.wish(0, 1);
        mended("time", x, 1, 60, new int[] {1, 'h', 1, NONE});
        Checks.anew(x, 1, "*:2/n?h");
        x.change(0, 1, -1);
        x.wish(0, -1);
        x.wish(1, -1);
        mended("open is changed alone", x, 1, 60, new int[] {1, 'n', 0, NONE});
    }

    private static void mendUndoing() {
        BetweenLaws x = new BetweenLaws();
        Checks.law(x, 0, 100, "*:1/a");
        Checks.law(x, 20, 100, "a:2/a");
        Checks.law(x, 30, 100, "b:3/a");
        Checks.law(x, 30, 100, "e:9/a");
        x.piece(10, A);
        x.piece(10, A + B);
        x.wish(0, 1);
        mended("law 1 undone", x, 3, 60, new int[] {1, 'a', 0, 1});
        x.wish(1, 2);
        unmended("both can not be", x, 3, 60);
        x.wish(0, -1);
        mended("law 2 undone", x, 3, 60, new int[] {1, 'a', 0, 2});
        mended("by itself", x, 2, 60, new int[] {1, 'n', 0, NONE});
        due("33: nothing is undone", 0, x.force(60, 1));
        due("33: its undoings stay", 0, x.of(3, 9));
        x.wish(1, 1);
        x.wish(0, 1);
        Checks.anew(x, 3, "e:9/a,u2");
        mended("one more", x, 3, 60, new int[] {1, 'a', 0, 1});
        due("33: its undoings stay", 4, x.of(3, 9));
        Checks.anew(x, 3, "e:9/a");
        unmended("two more can not be", x, 3, 60);
        Checks.anew(x, 3, "e:9/h?a,w");
        Checks.anew(x, 2, "e:3/a");
        mended("open and undone", x, 3, 60, new int[] {2, 'n', 1, 1});
    }

    private static void mendInOrder() {
        BetweenLaws x = new BetweenLaws();
        Checks.law(x, 20, 100, "*:2/a");
        x.piece(10, 0);
        x.change(0, 1, 15);
        Checks.law(x, 0, 100, "*:1/a");
        x.wish(0, 1);
        mended("time ahead of w and undoing", x, 0, 60, new int[] {1, 'n', 0, NONE});
        mended("undone by another one", x, 1, 60, new int[] {1, 'a', 0, 0});
        x.piece(12, 0);
        mended("not by n, which changes the other one", x, 0, 60, new int[] {1, 'h', 0, NONE});
        BetweenLaws y = new BetweenLaws();
        Checks.law(y, 0, 100, "*:1/a");
        Checks.law(y, 10, 100, "a:@2|b:@3/a");
        Checks.law(y, 5, 6, "a:4");
        Checks.law(y, 5, 6, "b:4");
        Checks.law(y, 0, 100, "e:4/a");
        y.piece(20, A);
        due("33: it gives", 4, y.gives(0, 20));
        y.wish(0, 1);
        mended("the law that sends", y, 4, 20, new int[] {1, 'a', 0, 1});
        Checks.law(y, 15, 100, "a:7/a");
        y.wish(0, 4);
        mended("itself undone goes behind nothing", y, 5, 20, new int[] {1, 'a', 0, 5});
        BetweenLaws v = new BetweenLaws();
        Checks.law(v, 5, 100, "*:1/a");
        Checks.law(v, 50, 100, "*:2/a,w");
        Checks.law(v, 0, 100, "*:2/a");
        v.piece(10, 0);
        v.change(0, 1, 49);
        v.wish(0, 2);
        mended("without w ahead of an undoing", v, 1, 60, new int[] {1, 'a', 0, NONE});
        BetweenLaws u = new BetweenLaws();
        u.set(2, 1);
        Checks.law(u, 50, 100, "*:9/a");
        Checks.law(u, 0, 20, "*:@2/a");
        Checks.law(u, 0, 1, "*:3");
        Checks.law(u, 0, 100, "e:7/a");
        u.piece(10, 0);
        u.wish(0, 9);
        mended("the least law undone", u, 3, 60, new int[] {1, 'a', 0, 1});
        BetweenLaws z = new BetweenLaws();
        z.set(2, 1);
        Checks.law(z, 0, 100, "*:3/a");
        Checks.law(z, 0, 15, "*:5/a");
        Checks.law(z, 20, 100, "*:8/a");
        z.piece(10, 0);
        due("33: the milder", 3, z.gives(0, 30));
        z.wish(0, 5);
        mended("by the day that it began, too", z, 1, 30, new int[] {1, 'a', 0, 0});
    }

    private static void mendRefused() {
        BetweenLaws x = new BetweenLaws();
        due("33: no law", UNKNOWN, x.mend(0, 0, 0));
        Checks.law(x, 0, 100, "*:1");
        mended("no pieces", x, 0, 0, new int[] {0, 'n', 0, NONE});
        x.piece(5, 0);
        x.wish(0, 9);
        due("33: no", NO, x.mend(0, 5, 0));
        due("33: outside ahead of no", OUTSIDE, x.mend(0, 5, 4));
        due("33: what", OUTSIDE, x.mend(0, 5, -1));
        due("33: day", OUTSIDE, x.mend(0, 100, 0));
        due("33: day", OUTSIDE, x.mend(0, -1, 0));
        due("33: unknown ahead of outside", UNKNOWN, x.mend(1, 100, 4));
    }

    private static void all() {
        BetweenLaws x = new BetweenLaws();
        due("34: none alone", 1, x.all(99, 0));
        due("34: the first", 0, x.all(99, 1));
        Checks.law(x, 0, 10, "a:1|b:2|cd:@1|*:@7/n");
        due("34: by sendings none", 3, x.all(0, 0));
        due("34: all are governed", NONE, x.all(0, 1));
        due("34: all are governed", NONE, x.all(9, 1));
        Checks.law(x, 5, 9, "e:1|cd:@0|a:4");
        due("34: a ring, too, on a day ahead", 4, x.all(4, 0));
        due("34: another number", 5, x.all(5, 0));
        due("34: the first day is not governed later", 0, x.all(10, 1));
        Checks.anew(x, 0, "a:1|b:2|c:3/a");
        due("34: the first without these marks", 0, x.all(0, 1));
        Checks.anew(x, 0, "*:3/a");
        Checks.law(x, 20, 40, "*:4/n");
        due("34: begun ahead of it", 0, x.all(30, 1));
        Checks.law(x, 21, 40, "a:6/a");
        Checks.law(x, 10, 20, "*:5/n");
        x.move(0, 1, 100);
        Checks.anew(x, 0, "a:@0|*:3/h");
        due("34: 4, 6, 3", 3, x.all(30, 0));
        Checks.anew(x, 2, "*:4/a");
        x.move(0, 0, 50);
        due("34: one reaches all", NONE, x.all(30, 1));
        Checks.anew(x, 2, "a:4|b:4|c:4|d:4/a");
        due("34: no marks", 0, x.all(30, 1));
        int[][] outside = {{-1, 0}, {100, 0}, {0, 2}, {0, -1}};
        for (int[] call : outside) due("34: outside", OUTSIDE, x.all(call[0], call[1]));
    }

    private static void allAnswers() {
        BetweenLaws x = new BetweenLaws();
        Checks.law(x, 0, 100, "a:61|b:62|c:63|d:99|e:64|*:98/a");
        due("34: great numbers", 6, x.all(0, 0));
        Checks.anew(x, 0, "a:1|b:1|c:1|d:1|e:1|*:2/a");
        due("34: those are forgotten, and no marks are a set, too", 2, x.all(0, 0));
        Checks.anew(x, 0, "a:0|b:1|c:@0|d:@7|e:0|*:1/a");
        due("34: 0, 1, a ring, none", 4, x.all(0, 0));
        due("34: the first day alone", 4, x.all(99, 0));
        Checks.anew(x, 0, "a:1/a");
        due("34: 1, none", 2, x.all(99, 0));
        due("34: what gives nothing, as no law governs", 0, x.all(99, 1));
        Checks.anew(x, 0, "*:@7/a");
        due("34: what gives nothing, but a law governs", NONE, x.all(99, 1));
    }

    private static void allWithSettings() {
        BetweenLaws x = new BetweenLaws();
        Checks.law(x, 0, 30, "*:7/n");
        Checks.law(x, 31, 33, "b:5/n");
        Checks.law(x, 40, 100, "*:9/n");
        due("34: first not governed on 20", NONE, x.all(20, 1));
        due("34: on 32", 0, x.all(32, 1));
        x.set(1, 1);
        due("34: behind", 3000, x.all(32, 1));
        due("34: behind, later", 3000, x.all(50, 1));
        due("34: 7, none, 5, 9", 4, x.all(50, 0));
        x.move(0, 1, 31);
        due("34: without that mark", 3100, x.all(50, 1));
        Checks.anew(x, 1, "*:5|b:5/n");
        due("34: a day between", 3300, x.all(50, 1));
        Checks.anew(x, 1, "a:5|c:6|d:7|e:8");
        due("34: 7, 5, 6, 8, none, 9", 6, x.all(50, 0));
        x.set(2, 1);
        Checks.anew(x, 2, "*:6/a");
        due("34: the milder of 6 and 7, 5, 8", 2, x.all(50, 0));
        x.set(2, 0);
        due("34: 6", 1, x.all(50, 0));
        Checks.law(x, 39, 100, "e:1/u0,u2");
        due("34: undone: what law 1 gave, law 3 by e", 6, x.all(50, 0));
        due("34: undone", 0, x.all(50, 1));
    }

    private static void image() {
        BetweenLaws x = new BetweenLaws();
        due("36: not kept", STATE, x.restore(0));
        due("36: not kept", STATE, x.restore(1));
        due("36: outside", OUTSIDE, x.restore(2));
        due("36: outside", OUTSIDE, x.restore(-1));
        due("35: outside", OUTSIDE, x.image(2));
        due("35: outside", OUTSIDE, x.image(-1));
        due("35: image(0)", 1, x.image(0));
        Checks.law(x, 10, 20, "a:5|*:6/h?a,w,t30c?b,u1");
        Checks.law(x, 10, 30, "*:8/a");
        x.piece(10, A);
        x.change(0, 1, 15);
        x.change(0, 2, 25);
        x.wish(0, 7);
        x.set(0, 1);
        x.set(1, 1);
        x.set(2, 1);
        x.say('z');
        due("35: image(1)", 1, x.image(1));
        due("36: the other one is not kept over", 1, x.restore(0));
        due("36: no laws", 0, x.told(0));
        due("36: no pieces", 0, x.told(1));
        due("36: the pad stays", 1, x.told(2));
        for (int what = 3; what <= 5; what++) due("36: settings", 0, x.told(what));
        Checks.law(x, 0, 1, "b:1/t1l");
        x.piece(3, B);
        x.say('z');
        x.say('z');
        for (int times = 0; times < 2; times++) {
            due("36: restore(1)", 1, x.restore(1));
            restored(x);
            x.move(0, 0, 0);
            Checks.anew(x, 0, "*:1");
            x.change(0, 3, B);
            x.wish(0, -1);
            x.set(0, 0);
        }
        due("35: kept anew", 1, x.image(1));
        x.set(0, 1);
        x.restore(1);
        due("36: as it was then", 0, x.told(3));
        due("36: as it was then", B, x.about(0, 3));
        due("36: the first one still", 1, x.restore(0));
        due("36: no laws", 0, x.told(0));
    }

    private static void restored(BetweenLaws x) {
        int[] law = {10, 20, 2, 'h', 'a', 1, 30, 'c', 'b', 2};
        for (int what = 0; what < law.length; what++) due("36: of(0, " + what + ")", law[what], x.of(0, what));
        int[] piece = {10, 15, 25, A, 7};
        for (int what = 0; what < piece.length; what++) due("36: about(0, " + what + ")", piece[what], x.about(0, what));
        due("36: part(0, 0, 1)", 5, x.part(0, 0, 1));
        due("36: part(0, 1, 1)", 6, x.part(0, 1, 1));
        due("36: laws", 2, x.told(0));
        due("36: pieces", 1, x.told(1));
        for (int what = 3; what <= 5; what++) due("36: settings", 1, x.told(what));
        due("36: what is undone", 2, x.force(10, 1));
        due("36: what is given", 5, x.gives(0, 10));
    }

    private static void told() {
        BetweenLaws x = new BetweenLaws();
        Checks.law(x, 0, 1, "*:1");
        Checks.law(x, 0, 1, "*:1");
        x.piece(0, 0);
        for (int n = 0; n < 3; n++) x.say('q');
        x.set(0, 1);
        x.set(2, 1);
        int[] all = {2, 1, 3, 1, 0, 1};
        for (int what = 0; what < all.length; what++) due("37: told(" + what + ")", all[what], x.told(what));
        due("37: what", OUTSIDE, x.told(6));
        due("37: what", OUTSIDE, x.told(-1));
    }

    /** As many LAWS, PIECES, OPEN words as there may be: nothing is left out, and nothing breaks. */
    private static void eightOfEach() {
        BetweenLaws x = new BetweenLaws();
        for (int n = 0; n < 8; n++) {
            Checks.law(x, 10 * n, 100 - n, "abcde:" + n + "|*:@" + (n + 1) % 8 + "/a?n,t" + n + "c?b,u7");
            x.piece(10 * n, 31);
        }
        due("36: image(0)", 1, x.image(0));
        due("36: restore(0)", 1, x.restore(0));
        due("10: all in force", 255, x.force(80, 0));
        due("10: the last undoes itself", 128, x.force(80, 1));
        due("10: and no other", 127, x.force(80, 2));
        due("11: open(-1)", 16, x.open(-1));
        due("11: open(15)", 71, x.open(15));
        due("18: the latest not undone", 6, x.governs(7, 80));
        due("19: all begun", 255, x.those(80, 3));
        due("22: sum", 48, x.sum(80));
        due("24: law 6", 66, x.term(6, 60, 1));
        due("24: law 0 is the last in force", 60, x.term(6, 99, 1));
        due("23: passages", 13, x.passage(0, -1, 0));
        due("26: none had ended", 0, x.taken(7));
        due("27: the fewest days", 7, x.brief(0));
        due("27: the fewest days", 23, x.brief(1));
        due("28: all", 255, x.caught(6));
        due("28: none, it is undone", 0, x.caught(7));
        due("29: law 3 is the last of the first 8 words", 6, x.read(7, 80, 255));
        due("30: ways", 1, x.ways(0, 80));
        due("31: hangs", 0, x.hangs(80, 0));
        due("33: open", 1, x.mend(7, 80, 0));
        due("34: 6, none", 2, x.all(80, 0));
        for (int p = 0; p < 8; p++) x.change(p, 3, 0);
        due("21: law 6 sends to what is undone", 1, x.route(0, 80, -1));
        for (int n = 0; n < 8; n++) Checks.anew(x, n, "*:@" + (n + 1) % 8 + "/a");
        due("19: a ring through all", 255, x.those(80, 2));
        due("21: a ring through all", 8, x.route(0, 80, -1));
        due("21: the first", 7, x.route(0, 80, 0));
        due("21: the last", 6, x.route(0, 80, 7));
        due("23: passages", 15, x.passage(0, -1, 0));
    }
}
