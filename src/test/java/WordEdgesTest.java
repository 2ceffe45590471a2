import java.util.HashSet;
import java.util.Set;

/**
 * Promises 26 to 37, sentence by sentence: each one of the document that names a bound, a least or a greatest, a
 * first or a last day, something empty or full, has its own function here, ahead of which it stands.
 */
public final class WordEdgesTest {
    private static final int STATE = Checks.STATE, NO = Checks.NO, NONE = Checks.NONE;
    private static final int A = 1, B = 2, ALL = 31;

    public static void main(String[] args) {
        endedAheadOfItsFirstDay();
        governedOnThat();
        fewestDays();
        onSomeDay();
        notBehindTheLastDay();
        allOthersByTheirFirst();
        noOpenWords();
        unlikeAnswers();
        byItsSecondLetterAlone();
        leastSuch();
        wishes();
        timeNhaAndW();
        openTimeIsUnlikeAll();
        oneUndoingMore();
        allThatCanBeChanged();
        allOthersWhatTheyGiveNow();
        firstByTime();
        noneDoes();
        eachDayTillIt();
        eachSetOfMarks();
        eachAnswer();
        firstThatNoneGoverns();
        notEndedNotJudged();
        keptInAnImage();
        fullImages();
        orderOfAnImage();
        counts();
        Checks.close("WordEdgesTest");
    }

    private static void due(String call, long want, long got) {
        Checks.due(call, want, got);
    }

    private static void mended(String name, BetweenLaws x, int law, int day, int... want) {
        for (int what = 0; what < 4; what++) {
            int due = want.length == 1 ? want[0] : want[what];
            due("33: " + name + ": mend(" + law + ", " + day + ", " + what + ")", due, x.mend(law, day, what));
        }
    }

    /** TAKEN by a LAW: PIECES that had ended ahead of its first DAY. */
    private static void endedAheadOfItsFirstDay() {
        int[] firsts = {0, 1, 50, 99};
        for (int first : firsts) {
            BetweenLaws x = new BetweenLaws();
            Checks.law(x, first, 100, "*:1/a");
            due("26: no pieces", 0, x.taken(0));
            x.piece(0, 0);
            due("26: it has not ended", 0, x.taken(0));
            int[] ended = {0, first - 1, first, first + 1, 99};
            for (int day : ended) {
                if (day < 0 || day > 99) continue;
                x.change(0, 1, day);
                due("26: first day " + first + ", ended " + day, day < first ? 1 : 0, x.taken(0));
            }
        }
        BetweenLaws x = new BetweenLaws();
        Checks.law(x, 99, 100, "*:1/a");
        for (int p = 0; p < 8; p++) {
            x.piece(98, 0);
            x.change(p, 1, 98);
        }
        due("26: all", 255, x.taken(0));
    }

    /** And that it GOVERNS on that: on its first DAY, not on another one. */
    private static void governedOnThat() {
        BetweenLaws x = new BetweenLaws();
        Checks.law(x, 50, 100, "a:1/a");
        Checks.law(x, 50, 51, "a:2|e:1/a,u0");
        x.piece(10, A);
        x.change(0, 1, 20);
        due("26: undone on that", 0, x.taken(0));
        due("26: the other one", 1, x.taken(1));
        x.move(1, 1, 60);
        x.move(1, 0, 51);
        due("26: undone the day behind", 1, x.taken(0));
        due("26: the other one", 1, x.taken(1));
        x.change(0, 2, 50);
        due("26: judged on that", 1, x.taken(0));
        due("26: judged ahead of the other one's", 0, x.taken(1));
        x.change(0, 2, 49);
        due("26: judged ahead", 0, x.taken(0));
        x.change(0, 2, -1);
        x.change(0, 3, B);
        due("26: no case", 0, x.taken(0));
        x.set(1, 1);
        Checks.anew(x, 0, "b:1/n");
        due("26: by time", 0, x.taken(0));
    }

    /** BRIEF: the LAW in FORCE fewest DAYS, the least such; 1 DAY is the fewest, 100 are the most. */
    private static void fewestDays() {
        BetweenLaws x = new BetweenLaws();
        due("27: no laws", STATE, x.brief(0));
        due("27: no laws", STATE, x.brief(1));
        Checks.law(x, 0, 100, "*:1");
        due("27: the most", 100, x.brief(1));
        for (int law = 1; law < 7; law++) {
            Checks.law(x, law, 101 - law, "*:1");
            due("27: the last one", law, x.brief(0));
            due("27: its days", 101 - 2 * law, x.brief(1));
        }
        Checks.law(x, 99, 100, "*:1/u7");
        due("27: undone, too", 7, x.brief(0));
        due("27: the fewest", 1, x.brief(1));
        x.move(3, 1, 4);
        due("27: the least of like ones", 3, x.brief(0));
        x.move(0, 1, 1);
        due("27: the least of like ones", 0, x.brief(0));
        due("27: the fewest", 1, x.brief(1));
    }

    /** CAUGHT by a LAW: PIECES that it GOVERNS on some DAY: the first, the last, one alone. */
    private static void onSomeDay() {
        int[] days = {0, 50, 99};
        for (int day : days) {
            BetweenLaws x = new BetweenLaws();
            Checks.law(x, 0, 100, "*:1/a");
            Checks.law(x, day, day + 1, "a:2/a");
            due("28: no pieces", 0, x.caught(1));
            x.piece(0, A);
            x.piece(day, A);
            x.piece(99, A);
            due("28: on day " + day, day == 99 ? 7 : 3, x.caught(1));
            due("28: all other days", day == 0 ? 7 : day == 99 ? 1 : 5 | 2, x.caught(0));
            x.change(0, 2, day);
            due("28: judged on day " + day, day == 99 ? 7 : 3, x.caught(1));
            if (day > 0) x.change(0, 2, day - 1);
            due("28: judged ahead of it", day == 99 ? 6 : day == 0 ? 3 : 2, x.caught(1));
        }
        BetweenLaws x = new BetweenLaws();
        for (int p = 0; p < 8; p++) x.piece(99, p);
        Checks.law(x, 99, 100, "*:1");
        due("28: all", 255, x.caught(0));
        Checks.law(x, 0, 99, "*:1/a");
        due("28: none, it ends ahead of all", 0, x.caught(1));
        Checks.anew(x, 0, "*:1/u0");
        due("28: none, it is undone", 0, x.caught(0));
        x.set(1, 1);
        due("28: none behind", 0, x.caught(1));
    }

    /** DAYS are 0 to 99: what would be BEHIND on day 100, when nothing is UNDONE any more, is not caught. */
    private static void notBehindTheLastDay() {
        BetweenLaws x = new BetweenLaws();
        x.set(1, 1);
        Checks.law(x, 0, 10, "*:1");
        Checks.law(x, 0, 100, "e:2/u0");
        x.piece(5, 0);
        due("28: undone on all days", 0, x.caught(0));
        due("23: none on all days", 1, x.passage(0, -1, 0));
        x.move(1, 1, 99);
        due("28: not undone on day 99", 1, x.caught(0));
        due("23: it governs on day 99", 99, x.passage(0, 1, 0));
    }

    /** READING (bits 0 to 255): bits of no OPEN word change nothing; all others are read by their first letter. */
    private static void allOthersByTheirFirst() {
        BetweenLaws x = new BetweenLaws();
        Checks.law(x, 0, 100, "*:1/a");
        Checks.law(x, 50, 100, "*:2/n?a,t5c?b");
        x.piece(10, 0);
        for (int reading = 0; reading < 256; reading++) {
            due("29: reading " + reading, (reading & 1) != 0 ? 2 : 1, x.read(0, 50, reading));
        }
        due("29: it is told by reading 0 behind that", 1, x.gives(0, 50));
        due("29: ahead of the law", 1, x.read(0, 49, 255));
        due("29: not begun", NONE, x.read(0, 9, 255));
        due("24: by reading 0", NONE, x.term(0, 50, 1));
        due("8: it is open still", 'a', x.of(1, 4));
    }

    /** OPEN words: none: NONE; no PIECES hang on them; one answer. */
    private static void noOpenWords() {
        BetweenLaws x = new BetweenLaws();
        due("11: no laws", 0, x.open(-1));
        due("31: no laws", NONE, x.hangs(0, 0));
        due("31: no laws", 0, x.hangs(0, 1));
        Checks.law(x, 0, 100, "*:1/n,t5c");
        x.piece(0, 0);
        due("11: no open word", 0, x.open(-1));
        due("11: no first", NONE, x.open(0));
        due("29: none", 1, x.read(0, 0, 255));
        due("30: one answer", 1, x.ways(0, 0));
        due("31: none", NONE, x.hangs(0, 0));
        due("31: no pieces", 0, x.hangs(0, 1));
    }

    /** WAYS: how many unlike answers GIVES has by all READINGS: 1 at least, by 8 words of TIME 9 here. */
    private static void unlikeAnswers() {
        BetweenLaws x = new BetweenLaws();
        x.piece(0, 0);
        for (int law = 0; law < 8; law++) {
            due("30: words " + law, law + 1, x.ways(0, 99));
            Checks.law(x, 1 + law, 100, "*:" + (law == 7 ? "@7" : law == 6 ? "99" : "" + law) + "/n?a");
        }
        due("30: none, a ring and 7 numbers", 9, x.ways(0, 99));
        Checks.anew(x, 7, "*:0/n?a");
        due("30: a number twice", 8, x.ways(0, 99));
        Checks.anew(x, 7, "*:@0/n?a");
        due("30: sent to a number", 8, x.ways(0, 99));
        due("30: the first day", 1, x.ways(0, 0));
        x.change(0, 2, 1);
        due("30: judged", 2, x.ways(0, 99));
        x.change(0, 2, 0);
        due("30: judged on its first day", 1, x.ways(0, 99));
    }

    /** HANGS: read by its second letter alone, most PIECES GIVE another answer. */
    private static void byItsSecondLetterAlone() {
        BetweenLaws x = new BetweenLaws();
        Checks.law(x, 50, 100, "*:1/n?a");
        Checks.law(x, 60, 100, "*:1/n?a");
        Checks.law(x, 50, 100, "a:2|*:@2/n?a");
        for (int p = 0; p < 8; p++) x.piece(0, p < 6 ? A : 0);
        due("31: alike, the least", 0, x.hangs(99, 0));
        due("31: all", 8, x.hangs(99, 1));
        due("31: the first day of the first one", 0, x.hangs(50, 0));
        due("31: ahead of it none", 0, x.hangs(49, 1));
        Checks.anew(x, 0, "*:1/a");
        due("31: 1 by 1 is no other answer", 1, x.hangs(99, 0));
        due("31: law 2 is like law 0, with more marks for six", 6, x.hangs(99, 1));
        x.move(2, 0, 51);
        due("31: later than law 0, also a ring", 8, x.hangs(99, 1));
        due("31: of law 2 the number is", 1, x.hangs(99, 0));
        due("31: not yet", 0, x.hangs(50, 1));
    }

    /** The least such; where no PIECE GIVES another answer, the first. */
    private static void leastSuch() {
        BetweenLaws x = new BetweenLaws();
        Checks.law(x, 0, 100, "*:1/t1c?b");
        due("31: a way", 0, x.hangs(0, 0));
        due("31: none hangs on it", 0, x.hangs(0, 1));
        for (int law = 1; law < 5; law++) Checks.law(x, 50, 100, "*:" + (1 + law) + "/n?a,t1c?b");
        due("31: no pieces", 0, x.hangs(99, 0));
        x.piece(0, 0);
        due("31: the least time", 1, x.hangs(99, 0));
        due("31: one", 1, x.hangs(99, 1));
        Checks.anew(x, 1, "*:@0/n?a,t1c?b");
        due("31: the next", 3, x.hangs(99, 0));
        for (int law = 2; law < 4; law++) Checks.anew(x, law, "*:1/n?a,t1c?b");
        due("31: the eighth", 7, x.hangs(99, 0));
        Checks.anew(x, 0, "*:1/t1c");
        due("31: one word fewer", 6, x.hangs(99, 0));
        due("31: it is the same", 40, x.open(6));
    }

    /** A WISH for a PIECE (0 to 99; -1: none): which it was (NONE). */
    private static void wishes() {
        BetweenLaws x = new BetweenLaws();
        x.piece(0, 0);
        int was = NONE;
        for (int v = -3; v <= 102; v++) {
            boolean may = v >= -1 && v <= 99;
            due("32: wish(0, " + v + ")", may ? was : Checks.OUTSIDE, x.wish(0, v));
            if (may) was = v == -1 ? NONE : v;
            due("13: which it is", was, x.about(0, 4));
        }
        due("32: none any more", 99, x.wish(0, -1));
        due("32: it is none", NONE, x.wish(0, -1));
    }

    /** MENDING: TIME n, h, a; w or not: as many are changed as are unlike what it has. */
    private static void timeNhaAndW() {
        String[] times = {"n", "h", "a"};
        for (String had : times) {
            for (int w = 0; w <= 1; w++) {
                BetweenLaws x = new BetweenLaws();
                Checks.law(x, 0, 100, "*:1/a");
                Checks.law(x, 50, 100, "*:2/" + had + (w == 1 ? ",w" : ""));
                x.piece(10, 0);
                x.piece(10, 0);
                x.change(1, 1, 49);
                String name = had + w;
                x.wish(0, 1);
                x.wish(1, 1);
                int toN = had.equals("n") ? 0 : 1;
                mended(name + " to none", x, 1, 99, toN, 'n', w, NONE);
                x.wish(0, 2);
                int toH = had.equals("h") ? 0 : had.equals("a") && w == 1 ? 0 : 1;
                mended(name + " to what lasted", x, 1, 99, toH, toH == 0 ? had.charAt(0) : 'h', w, NONE);
                x.wish(1, 2);
                int toA = (had.equals("a") ? 0 : 1) + w;
                mended(name + " to both", x, 1, 99, toA, 'a', 0, NONE);
                x.wish(0, 1);
                mended(name + " to what ended alone", x, 1, 99, NO);
            }
        }
    }

    /** An OPEN TIME is unlike all: also unlike its own letters. */
    private static void openTimeIsUnlikeAll() {
        String[] times = {"n?h", "n?a", "h?n", "h?a", "a?n", "a?h"};
        for (String had : times) {
            BetweenLaws x = new BetweenLaws();
            Checks.law(x, 50, 100, "*:2/" + had);
            mended(had + ", no pieces", x, 0, 0, 1, 'n', 0, NONE);
            x.piece(10, 0);
            char first = had.charAt(0);
            mended(had + ", as now", x, 0, 99, 1, first == 'n' ? 'n' : 'h', 0, NONE);
            x.change(0, 1, 49);
            mended(had + ", ended, as now", x, 0, 99, 1, first == 'a' ? 'a' : 'n', 0, NONE);
            due("8: it is open still", had.charAt(2), x.of(0, 4));
            due("20: it is read by its first letter", first == 'a' ? 2 : NONE, x.gives(0, 99));
            Checks.anew(x, 0, "*:2/" + had + ",w");
            mended(had + ",w", x, 0, 99, 1, 'n', 1, NONE);
        }
    }

    /** One UNDOING more, or none: each LAW that there is, the least first. */
    private static void oneUndoingMore() {
        for (int undone = 0; undone < 7; undone++) {
            BetweenLaws x = new BetweenLaws();
            for (int law = 0; law < 7; law++) Checks.law(x, law == undone ? 50 : 10 + law, 100, "a:" + law + "/a");
            Checks.law(x, 99, 100, "e:1/a");
            x.piece(0, A);
            due("20: now", undone, x.gives(0, 99));
            x.wish(0, undone == 6 ? 5 : 6);
            mended("law " + undone + " undone", x, 7, 99, 1, 'a', 0, undone);
            mended("not on a day ahead", x, 7, 98, NO);
            due("8: it has none still", 0, x.of(7, 9));
            due("10: none is undone", 0, x.force(99, 1));
        }
        BetweenLaws x = new BetweenLaws();
        for (int law = 0; law < 8; law++) Checks.law(x, 0, 100, "*:" + law + "/a");
        x.piece(0, 0);
        x.wish(0, 1);
        mended("the least", x, 7, 0, 1, 'a', 0, 0);
        mended("itself", x, 0, 0, 1, 'a', 0, 0);
        Checks.anew(x, 0, "*:0/a,u1,u2,u3,u4,u5,u6");
        x.wish(0, 7);
        mended("one more than six", x, 0, 0, 1, 'a', 0, 0);
        Checks.anew(x, 7, "*:0/a,u0,u1,u2,u3,u4,u5,u6,u7");
        x.wish(0, -1);
        mended("all are undone already", x, 7, 0, 0, 'a', 0, NONE);
    }

    /** The fewest: 0 at least, 3 at most, in any law. */
    private static void allThatCanBeChanged() {
        BetweenLaws x = new BetweenLaws();
        Checks.law(x, 0, 100, "*:1/a");
        Checks.law(x, 60, 100, "a:2/a");
        Checks.law(x, 50, 100, "*:3/n,w");
        x.piece(10, 0);
        x.piece(10, A);
        x.piece(10, B);
        x.change(2, 1, 49);
        mended("none", x, 2, 99, 0, 'n', 1, NONE);
        x.wish(0, 3);
        x.wish(2, 1);
        mended("one", x, 2, 99, 1, 'h', 1, NONE);
        x.wish(1, 3);
        mended("two", x, 2, 99, 2, 'h', 1, 1);
        x.wish(2, 3);
        mended("three", x, 2, 99, 3, 'a', 0, 1);
        x.wish(1, 2);
        mended("two", x, 2, 99, 2, 'a', 0, NONE);
        Checks.anew(x, 2, "*:3/n?a,w");
        mended("open counts once", x, 2, 99, 2, 'a', 0, NONE);
        x.wish(1, 3);
        mended("open counts once", x, 2, 99, 3, 'a', 0, 1);
    }

    /** Each PIECE with a WISH GIVES that, all others what they GIVE now: NONE and a RING, too. */
    private static void allOthersWhatTheyGiveNow() {
        BetweenLaws x = new BetweenLaws();
        Checks.law(x, 50, 100, "a:@0|b:5|c:0");
        x.piece(10, A);
        x.piece(10, B);
        x.piece(10, 4);
        x.piece(60, A);
        x.piece(99, A);
        x.wish(1, 5);
        mended("the first would be in a ring", x, 0, 99, NO);
        due("20: the fourth is in a ring", STATE, x.gives(3, 99));
        x.change(0, 2, 49);
        mended("the third would give 0", x, 0, 99, NO);
        x.wish(2, 0);
        mended("0 is wished", x, 0, 99, 1, 'h', 0, NONE);
        x.wish(3, 0);
        mended("a ring is no 0", x, 0, 99, NO);
        x.wish(3, -1);
        mended("a ring stays one", x, 0, 98, 1, 'h', 0, NONE);
        x.wish(4, 0);
        mended("a wish for what is not begun", x, 0, 98, NO);
    }

    /** Of several the first by TIME, then without w, then none, then by the LAW undone. */
    private static void firstByTime() {
        BetweenLaws x = new BetweenLaws();
        Checks.law(x, 50, 100, "*:2/a,w");
        Checks.law(x, 0, 100, "*:1/a");
        x.piece(10, 0);
        x.wish(0, 1);
        mended("by n, as all else is", x, 0, 99, 1, 'n', 1, NONE);
        x.piece(60, 0);
        mended("by n: it began later", x, 0, 99, 1, 'n', 1, NONE);
        x.wish(1, 1);
        mended("itself undone", x, 0, 99, 1, 'a', 1, 0);
        x.wish(0, 2);
        mended("one of both can not be", x, 0, 99, NO);
        BetweenLaws y = new BetweenLaws();
        Checks.law(y, 50, 100, "a:1/h,w");
        Checks.law(y, 0, 100, "*:2/a,u5");
        y.piece(10, A);
        y.wish(0, 2);
        mended("time ahead of an undoing", y, 0, 99, 1, 'n', 1, NONE);
        mended("the other one undone", y, 1, 99, 1, 'a', 0, 0);
        y.move(1, 0, 51);
        mended("no change", y, 1, 99, 0, 'a', 0, NONE);
        y.wish(0, 1);
        mended("n ahead of h", y, 1, 99, 1, 'n', 0, NONE);
        y.change(0, 1, 99);
        Checks.anew(y, 1, "*:2/n?a,w,u5");
        mended("with w as it was", y, 1, 99, 1, 'n', 1, NONE);
    }

    /** NO: none does. */
    private static void noneDoes() {
        BetweenLaws x = new BetweenLaws();
        Checks.law(x, 0, 100, "*:99/a");
        for (int day = 0; day < 100; day += 33) mended("no pieces", x, 0, day, 0, 'a', 0, NONE);
        x.piece(50, 0);
        x.wish(0, 98);
        for (int day = 0; day < 100; day += 33) mended("no such number", x, 0, day, NO);
        x.wish(0, 99);
        mended("not begun", x, 0, 49, NO);
        mended("begun", x, 0, 50, 0, 'a', 0, NONE);
        x.wish(0, -1);
        mended("without a wish", x, 0, 49, 0, 'a', 0, NONE);
    }

    /** ALL PIECES that could be by a DAY: begun on each DAY till it: the first and the last, too. */
    private static void eachDayTillIt() {
        BetweenLaws x = new BetweenLaws();
        int[] days = {0, 1, 50, 99};
        for (int day : days) {
            due("34: no laws: none", 1, x.all(day, 0));
            due("34: no laws: the first", 0, x.all(day, 1));
        }
        Checks.law(x, 0, 100, "*:1");
        for (int day : days) {
            due("34: all alike", 1, x.all(day, 0));
            due("34: all governed", NONE, x.all(day, 1));
        }
        for (int first = 1; first <= 99; first += 49) {
            x.move(0, 0, first);
            due("34: ahead of its first day none", 1, x.all(first - 1, 0));
            due("34: on its first day those that begin on it", 2, x.all(first, 0));
            due("34: the first day is ahead of it", 0, x.all(first, 1));
        }
        Checks.law(x, 0, 99, "*:2/a");
        due("34: those that begin on day 99", 2, x.all(99, 0));
        due("34: day 98", 1, x.all(98, 0));
        Checks.anew(x, 0, "e:1");
        x.move(1, 1, 100);
        due("34: with one set of marks", 2, x.all(99, 0));
    }

    /** With each set of MARKS: 32 of them. */
    private static void eachSetOfMarks() {
        BetweenLaws x = new BetweenLaws();
        Checks.law(x, 0, 100, "abcde:1|abcd:2|abc:3|ab:4|a:5/a");
        due("34: 1 to 5, none", 6, x.all(0, 0));
        due("34: no marks", 0, x.all(0, 1));
        Checks.law(x, 0, 100, "abcde:6|b:7|c:8|d:9|e:10|*:11/a");
        due("34: 2, 3, 4, 5 by a, 1 by two, 7 to 11", 10, x.all(0, 0));
        due("34: all governed", NONE, x.all(0, 1));
        Checks.law(x, 1, 100, "abcde:0|abce:99|abde:98|acde:97|bcde:96|*:@2/a");
        due("34: 0, 99 to 96, a ring", 6, x.all(1, 0));
        due("34: the day ahead", 10, x.all(0, 0));
        x.set(2, 1);
        due("34: the milder, as pieces give them", givenOnDayOne(), x.all(1, 0));
    }

    /** How many unlike answers PIECES begun on DAY 0 and 1 give by the laws of eachSetOfMarks. */
    private static int givenOnDayOne() {
        BetweenLaws x = new BetweenLaws();
        Checks.law(x, 0, 100, "abcde:1|abcd:2|abc:3|ab:4|a:5/a");
        Checks.law(x, 0, 100, "abcde:6|b:7|c:8|d:9|e:10|*:11/a");
        Checks.law(x, 1, 100, "abcde:0|abce:99|abde:98|acde:97|bcde:96|*:@2/a");
        x.set(2, 1);
        Set<Integer> given = new HashSet<>();
        for (int began = 0; began <= 1; began++) {
            x.piece(began, 0);
            for (int marks = 0; marks <= ALL; marks++) {
                x.change(began, 3, marks);
                given.add(x.gives(began, 1));
            }
        }
        return given.size();
    }

    /** How many unlike answers: each number 0 to 99 is unlike NONE, a RING and each other number. */
    private static void eachAnswer() {
        for (int gift = 0; gift <= 99; gift++) {
            for (int other = 0; other <= 99; other++) {
                BetweenLaws x = new BetweenLaws();
                Checks.law(x, 0, 100, "a:" + gift + "|b:" + other + "|c:@0");
                Checks.law(x, 1, 100, "*:" + other + "/n?a");
                x.piece(0, A);
                due("34: " + gift + ", " + other + ", a ring and none", other == gift ? 3 : 4, x.all(0, 0));
                due("30: " + gift + ", " + other, other == gift ? 1 : 2, x.ways(0, 1));
            }
            BetweenLaws x = new BetweenLaws();
            Checks.law(x, 0, 100, "a:" + gift);
            due("34: " + gift + " and none", 2, x.all(0, 0));
            Checks.anew(x, 0, "a:" + gift + "|*:@0");
            due("34: " + gift + " and a ring", 2, x.all(0, 0));
        }
    }

    /** The first (by DAYS, then MARKS) that no LAW GOVERNS: 100 times its DAY, and MARKS; NONE. */
    private static void firstThatNoneGoverns() {
        BetweenLaws x = new BetweenLaws();
        x.set(1, 1);
        int[] days = {1, 50, 98, 99};
        Checks.law(x, 0, 1, "*:1");
        for (int day : days) {
            x.move(0, 1, day);
            due("34: the first day without a law", 100 * day, x.all(99, 1));
            due("34: on that day", 100 * day, x.all(day, 1));
            due("34: ahead of that", NONE, x.all(day - 1, 1));
        }
        x.move(0, 1, 100);
        due("34: all governed", NONE, x.all(99, 1));
        Checks.anew(x, 0, "a:1|b:1|c:1|d:1|e:1");
        due("34: but what has no marks", 0, x.all(99, 1));
        Checks.law(x, 0, 100, "*:@7/a");
        due("34: what gives nothing is governed", NONE, x.all(99, 1));
        Checks.anew(x, 1, "*:@1/a");
        due("34: what is in a ring is governed", NONE, x.all(99, 1));
    }

    /** Not ended, not JUDGED; the PIECES that there are do not matter. */
    private static void notEndedNotJudged() {
        BetweenLaws x = new BetweenLaws();
        Checks.law(x, 50, 100, "*:1/h,w");
        x.piece(0, 0);
        x.change(0, 1, 0);
        x.change(0, 2, 0);
        x.wish(0, 5);
        due("34: all are governed", NONE, x.all(99, 1));
        due("34: all alike", 1, x.all(99, 0));
        due("13: ended stays", 0, x.about(0, 1));
        due("13: judged stays", 0, x.about(0, 2));
        due("37: no piece more", 1, x.told(1));
        for (int p = 1; p < 8; p++) x.piece(0, 0);
        due("34: when there are 8, too", 1, x.all(99, 0));
    }

    /** LAWS, PIECES, ORDER, BEHIND, MILD are kept in an IMAGE (0, 1); STATE: it was not. */
    private static void keptInAnImage() {
        for (int n = 0; n <= 1; n++) {
            BetweenLaws x = new BetweenLaws();
            due("36: it was not", STATE, x.restore(n));
            due("35: of what is empty", 1, x.image(n));
            due("36: the other one was not", STATE, x.restore(1 - n));
            Checks.law(x, 0, 100, "*:1");
            x.piece(0, 0);
            for (int which = 0; which <= 2; which++) x.set(which, 1);
            Checks.say(x, "a:1");
            due("36: the other one was not", STATE, x.restore(1 - n));
            due("37: so all stays", 1, x.told(0));
            due("36: restore", 1, x.restore(n));
            int[] due = {0, 0, 3, 0, 0, 0};
            for (int what = 0; what < 6; what++) due("37: told(" + what + ")", due[what], x.told(what));
            due("8: no law", Checks.UNKNOWN, x.of(0, 0));
            due("13: no piece", Checks.UNKNOWN, x.about(0, 0));
            due("10: none in force", 0, x.force(0, 0));
            due("5: numbered from 0 on", 0, x.law(0, 100));
            due("12: numbered from 0 on", 0, x.piece(0, 0));
            due("36: again", 1, x.restore(n));
            due("37: no laws", 0, x.told(0));
            BetweenLaws y = new BetweenLaws();
            due("36: another object's", STATE, y.restore(n));
        }
    }

    /** They are as they were when it was kept: also when all is full, and kept over. */
    private static void fullImages() {
        BetweenLaws x = new BetweenLaws();
        x.image(1);
        for (int n = 0; n < 8; n++) {
            Checks.law(x, n, 100 - n, "a:" + n + "|*:@" + n + "/a?h,w,t" + n + "c?l,u" + n);
            x.piece(n, n);
            x.change(n, 1, 90 + n);
            x.change(n, 2, 80 + n);
            x.wish(n, 70 + n);
        }
        x.image(0);
        x.restore(1);
        due("36: all is empty", 0, x.told(0) + x.told(1));
        Checks.law(x, 50, 60, "b:1");
        x.piece(50, B);
        x.image(1);
        x.restore(0);
        due("5: full", Checks.FULL, fullLaw(x));
        due("12: full", Checks.FULL, x.piece(0, 0));
        for (int n = 0; n < 8; n++) {
            int[] law = {n, 100 - n, 2, 'a', 'h', 1, n, 'c', 'l', 1 << n};
            for (int what = 0; what < 10; what++) due("36: of(" + n + ", " + what + ")", law[what], x.of(n, what));
            due("36: gift", n, x.part(n, 0, 1));
            due("36: gift", 100 + n, x.part(n, 1, 1));
            int[] piece = {n, 90 + n, 80 + n, n, 70 + n};
            for (int what = 0; what < 5; what++) due("36: about(" + n + ", " + what + ")", piece[what], x.about(n, what));
        }
        x.restore(1);
        due("36: one law", 1, x.told(0));
        due("36: one piece", B, x.about(0, 3));
        due("36: it is not judged", NONE, x.about(0, 2));
        due("36: it is not undone", 1, x.force(50, 2));
        x.image(0);
        x.wipe();
        x.restore(0);
        due("35: kept over", 1, x.told(0));
        due("35: the pad is not kept", 0, x.told(2));
    }

    /** They are as they were: also which LAW undoes the other one, by the DAYS on which they began then. */
    private static void orderOfAnImage() {
        BetweenLaws x = new BetweenLaws();
        Checks.law(x, 10, 100, "*:1/u1");
        Checks.law(x, 20, 100, "*:2/u0");
        Checks.law(x, 0, 100, "*:3/a");
        x.piece(50, 0);
        x.image(0);
        x.move(0, 0, 30);
        x.move(2, 0, 40);
        due("10: law 0 is later", 2, x.force(50, 1));
        due("18: law 2 is later", 2, x.governs(0, 50));
        x.image(1);
        x.restore(0);
        due("36: law 1 is later", 1, x.force(50, 1));
        due("36: law 1 is later", 1, x.governs(0, 50));
        x.restore(1);
        due("36: law 0 is later", 2, x.force(50, 1));
        due("36: law 2 is later", 2, x.governs(0, 50));
    }

    private static int fullLaw(BetweenLaws x) {
        Checks.say(x, "a:1");
        return x.law(0, 100);
    }

    /** told: 0 LAWS, 1 PIECES, 2 signs, 3 ORDER, 4 BEHIND, 5 MILD: from empty to full. */
    private static void counts() {
        BetweenLaws x = new BetweenLaws();
        for (int what = 0; what < 6; what++) due("37: told(" + what + ")", 0, x.told(what));
        for (int n = 1; n <= 8; n++) {
            Checks.law(x, 0, 100, "*:1");
            due("37: laws", n, x.told(0));
            x.piece(0, 0);
            due("37: pieces", n, x.told(1));
        }
        for (int n = 1; n <= 60; n++) {
            x.say('!');
            due("37: signs", n, x.told(2));
        }
        for (int n = 0; n < 8; n++) {
            for (int which = 0; which <= 2; which++) x.set(which, n >> which & 1);
            for (int which = 0; which <= 2; which++) due("37: told", n >> which & 1, x.told(3 + which));
        }
        due("37: laws", 8, x.told(0));
        due("37: pieces", 8, x.told(1));
        due("37: signs", 60, x.told(2));
    }
}
