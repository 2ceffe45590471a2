/**
 * Promises 20 to 25, sentence by sentence: each one of the document that names a bound, a least or a greatest, a
 * first or a last day, something empty or full, has its own function here, ahead of which it stands.
 */
public final class GiftEdgesTest {
    private static final int STATE = Checks.STATE, NONE = Checks.NONE;
    private static final int A = 1, B = 2;

    public static void main(String[] args) {
        leastAndGreatestGifts();
        sentToWhatIsThere();
        sentToNothing();
        aLawComesAgain();
        throughAllLaws();
        beganLaterThanThePiece();
        lesserOfBoth();
        emptyAndFullSums();
        firstAndLastPassage();
        anotherThanAhead();
        mostPassages();
        noEndWithoutTerm();
        fromTheFirstDay();
        endByEachWay();
        farthestEnd();
        noLessThanEnd();
        notByTheLastDay();
        Checks.close("GiftEdgesTest");
    }

    private static void due(String call, long want, long got) {
        Checks.due(call, want, got);
    }

    /** GIVES: the GIFT: 0 to 99. */
    private static void leastAndGreatestGifts() {
        BetweenLaws x = new BetweenLaws();
        Checks.law(x, 0, 100, "a:0|b:99|*:00");
        x.piece(0, A);
        x.piece(0, B);
        x.piece(99, 0);
        int[] gifts = {0, 99, 0};
        for (int p = 0; p < 3; p++) due("20: piece " + p, gifts[p], x.gives(p, 99));
        due("20: not begun", NONE, x.gives(2, 98));
        due("22: one number 99", 99, x.sum(99));
    }

    /** The other LAW (which there is, not UNDONE; in FORCE or not). */
    private static void sentToWhatIsThere() {
        BetweenLaws x = new BetweenLaws();
        Checks.law(x, 0, 100, "*:@7/a");
        x.piece(0, A);
        for (int law = 1; law <= 7; law++) {
            due("20: law 7 is not there yet", NONE, x.gives(0, 50));
            due("21: it comes to the first alone", 1, x.route(0, 50, -1));
            Checks.law(x, law == 7 ? 80 : 0, law == 7 ? 81 : 1, "a:" + law);
        }
        due("20: law 7 is there, not in force", 7, x.gives(0, 50));
        due("20: when it is in force, too", 7, x.gives(0, 79));
        due("21: it comes to both", 2, x.route(0, 50, -1));
        due("21: the second", 7, x.route(0, 50, 1));
        x.change(0, 3, B);
        due("20: it does not fit", NONE, x.gives(0, 50));
        due("21: it does not come to it", 1, x.route(0, 50, -1));
        due("18: it is governed still", 0, x.governs(0, 50));
        due("19: so it is not one of those", 0, x.those(50, 1));
    }

    /** NONE: none GOVERNS, or it is sent to nothing. */
    private static void sentToNothing() {
        BetweenLaws x = new BetweenLaws();
        x.piece(10, A);
        due("20: no law", NONE, x.gives(0, 10));
        due("21: no law", 0, x.route(0, 10, -1));
        due("21: no first", NONE, x.route(0, 10, 0));
        Checks.law(x, 0, 100, "*:@1/a");
        Checks.law(x, 0, 1, "a:5");
        Checks.law(x, 40, 50, "e:9/u1");
        int[][] due = {{39, 5}, {40, NONE}, {49, NONE}, {50, 5}};
        for (int[] day : due) {
            due("20: day " + day[0], day[1], x.gives(0, day[0]));
            due("21: day " + day[0], day[1] == NONE ? 1 : 2, x.route(0, day[0], -1));
            due("21: the second on " + day[0], day[1] == NONE ? NONE : 1, x.route(0, day[0], 1));
            due("22: day " + day[0], day[1] == NONE ? 0 : 5, x.sum(day[0]));
        }
        Checks.anew(x, 2, "e:9/u0");
        due("20: undone, none governs", NONE, x.gives(0, 40));
        due("21: it comes to none", 0, x.route(0, 40, -1));
    }

    /** RING: STATE, if a LAW comes again: rings of 1 to 8 laws, with and without ways into them. */
    private static void aLawComesAgain() {
        for (int laws = 1; laws <= 8; laws++) {
            for (int back = 0; back < laws; back++) {
                BetweenLaws x = new BetweenLaws();
                for (int law = 0; law < laws; law++) {
                    Checks.law(x, law == 0 ? 0 : 99, 100, "*:@" + (law < laws - 1 ? law + 1 : back) + "/a");
                }
                x.piece(0, 0);
                String ring = " of " + laws + " laws back to " + back;
                due("20: a ring" + ring, STATE, x.gives(0, 98));
                due("29: a ring" + ring, STATE, x.read(0, 98, 255));
                due("21: each once" + ring, laws, x.route(0, 98, -1));
                for (int i = 0; i < laws; i++) due("21: the i-th" + ring, i, x.route(0, 98, i));
                due("21: none more" + ring, NONE, x.route(0, 98, laws));
                due("19: it is in a ring", 1, x.those(98, 2));
                due("22: no number", 0, x.sum(98));
                due("30: one answer", 1, x.ways(0, 98));
            }
        }
    }

    /** And so on: by sendings through all 8 LAWS, without a RING. */
    private static void throughAllLaws() {
        BetweenLaws x = new BetweenLaws();
        for (int law = 0; law < 8; law++) Checks.law(x, law == 7 ? 0 : 99, 100, law == 0 ? "*:42" : "*:@" + (law - 1) + "/a");
        x.piece(0, 0);
        due("20: the last one's number", 42, x.gives(0, 50));
        due("21: all", 8, x.route(0, 50, -1));
        for (int i = 0; i < 8; i++) due("21: the i-th", 7 - i, x.route(0, 50, i));
        due("21: none more", NONE, x.route(0, 50, 8));
        due("19: no ring", 0, x.those(50, 2));
        Checks.anew(x, 0, "*:@7");
        due("20: a ring through all", STATE, x.gives(0, 50));
    }

    /** MILD 1 (0 at first): if the LAW that GOVERNS began later than the PIECE. */
    private static void beganLaterThanThePiece() {
        for (int first = 9; first <= 11; first++) {
            BetweenLaws x = new BetweenLaws();
            Checks.law(x, 0, 100, "*:1/a");
            Checks.law(x, first, 100, "*:8/a");
            x.piece(10, 0);
            due("20: mild 0", 8, x.gives(0, 50));
            due("15: mild", 0, x.set(2, 1));
            due("20: first day " + first, first > 10 ? 1 : 8, x.gives(0, 50));
            due("29: first day " + first, first > 10 ? 1 : 8, x.read(0, 50, 255));
            due("22: first day " + first, first > 10 ? 1 : 8, x.sum(50));
            due("15: mild", 1, x.set(2, 0));
            due("20: mild 0", 8, x.gives(0, 50));
        }
    }

    /** And it GIVES a number on the DAY that it began, too, the lesser one. */
    private static void lesserOfBoth() {
        String[] then = {"*:4", "*:5", "*:6", "*:0", "*:99", "*:@7", "*:@0", "e:1", "*:@2"};
        int[] first = {4, 5, 6, 0, 99, NONE, STATE, NONE, 3};
        int[] mild = {4, 5, 5, 0, 5, 5, 5, 5, 3};
        for (int n = 0; n < then.length; n++) {
            BetweenLaws x = new BetweenLaws();
            x.set(2, 1);
            Checks.law(x, 0, 100, then[n] + "/a");
            Checks.law(x, 50, 100, "*:5/a");
            Checks.law(x, 0, 1, "*:3");
            x.piece(10, 0);
            due("20: then " + then[n], mild[n], x.gives(0, 50));
            x.change(0, 2, 10);
            due("20: then " + then[n] + ", judged on that day", first[n], x.gives(0, 50));
        }
        String[] now = {"*:@7", "*:@1", "*:0", "*:99"};
        int[] milder = {NONE, STATE, 0, 4};
        for (int n = 0; n < now.length; n++) {
            BetweenLaws x = new BetweenLaws();
            x.set(2, 1);
            Checks.law(x, 0, 100, "*:4/a");
            Checks.law(x, 50, 100, now[n] + "/a");
            x.piece(10, 0);
            due("20: now " + now[n], milder[n], x.gives(0, 50));
            due("20: ahead of that", 4, x.gives(0, 49));
        }
    }

    /** SUM of a DAY: all numbers that PIECES GIVE: of none 0, of 8 the greatest 792. */
    private static void emptyAndFullSums() {
        BetweenLaws x = new BetweenLaws();
        due("22: nothing", 0, x.sum(0));
        for (int p = 0; p < 8; p++) x.piece(p, 0);
        due("22: no laws", 0, x.sum(99));
        Checks.law(x, 0, 100, "*:99");
        for (int day = 0; day < 8; day++) due("22: day " + day, 99 * (day + 1), x.sum(day));
        due("22: the last day", 792, x.sum(99));
        Checks.anew(x, 0, "*:0");
        due("22: numbers 0", 0, x.sum(99));
    }

    /** From the DAY it began till DAY 99 (its first DAY, too). */
    private static void firstAndLastPassage() {
        BetweenLaws x = new BetweenLaws();
        x.piece(0, 0);
        x.piece(99, 0);
        for (int p = 0; p < 2; p++) {
            due("23: no laws: one", 1, x.passage(p, -1, 0));
            due("23: its first day", 99 * p, x.passage(p, 0, 0));
            due("23: none", NONE, x.passage(p, 0, 1));
            due("23: none more", NONE, x.passage(p, 1, 0));
            due("23: none more", NONE, x.passage(p, 1, 1));
        }
        Checks.law(x, 99, 100, "*:1/a");
        due("23: the last day", 2, x.passage(0, -1, 0));
        due("23: the last day", 99, x.passage(0, 1, 0));
        due("23: the last day's law", 0, x.passage(0, 1, 1));
        due("23: on the last day alone", 1, x.passage(1, -1, 0));
        due("23: its law", 0, x.passage(1, 0, 1));
        x.move(0, 0, 1);
        due("23: the second day", 1, x.passage(0, 1, 0));
        x.move(0, 0, 0);
        due("23: the first day", 1, x.passage(0, -1, 0));
        due("23: the first day's law", 0, x.passage(0, 0, 1));
    }

    /** Each DAY on which another LAW GOVERNS than on the one ahead (NONE is as a LAW). */
    private static void anotherThanAhead() {
        BetweenLaws x = new BetweenLaws();
        Checks.law(x, 0, 50, "*:1/a");
        Checks.law(x, 50, 60, "*:1/a");
        Checks.law(x, 20, 30, "e:1/a,u0");
        Checks.law(x, 70, 71, "e:1/a,u1");
        x.piece(0, 0);
        int[][] due = {{0, 0}, {20, NONE}, {30, 0}, {50, 1}, {60, NONE}};
        due("23: how many", due.length, x.passage(0, -1, 1));
        for (int i = 0; i < due.length; i++) {
            due("23: the day of passage " + i, due[i][0], x.passage(0, i, 0));
            due("23: the law of passage " + i, due[i][1], x.passage(0, i, 1));
        }
        due("23: from none to none is none", NONE, x.passage(0, due.length, 0));
    }

    /** As many as 8 LAWS can make: each begins and ends, with days of none between. */
    private static void mostPassages() {
        BetweenLaws x = new BetweenLaws();
        for (int law = 0; law < 8; law++) Checks.law(x, 1 + 12 * law, 7 + 12 * law, "*:" + law + "/a");
        x.piece(0, 0);
        due("23: how many", 17, x.passage(0, -1, 0));
        for (int i = 0; i <= 16; i++) {
            due("23: the day of passage " + i, i == 0 ? 0 : 6 * i - 5, x.passage(0, i, 0));
            due("23: the law of passage " + i, i % 2 == 0 ? NONE : i / 2, x.passage(0, i, 1));
        }
        due("23: none more", NONE, x.passage(0, 17, 0));
        due("23: none more", NONE, x.passage(0, 17, 1));
    }

    /** A LAW without TERM, or NONE: there is no END; else, if there was no END: START and TERM. */
    private static void noEndWithoutTerm() {
        String[] ways = {"c", "b", "l"};
        for (String way : ways) {
            BetweenLaws x = new BetweenLaws();
            Checks.law(x, 10, 20, "*:1/a,t40" + way);
            Checks.law(x, 20, 30, "*:2/a");
            Checks.law(x, 30, 40, "*:3/a,t50" + way);
            Checks.law(x, 50, 60, "*:4/a,t60" + way);
            x.piece(5, 0);
            int[][] due = {{5, NONE}, {9, NONE}, {10, 45}, {19, 45}, {20, NONE}, {29, NONE}, {30, 55}, {39, 55}, {40, NONE},
                {49, NONE}, {50, 65}, {59, 65}, {60, NONE}, {99, NONE}};
            for (int[] day : due) {
                due("24: end on " + day[0] + " by " + way, day[1], x.term(0, day[0], 1));
                due("24: start on " + day[0] + " by " + way, 5, x.term(0, day[0], 0));
            }
            due("25: there is no end when it would be", NONE, x.whole(0, 0));
        }
    }

    /** From the DAY a PIECE began a START and an END are carried; STATE: it is not begun. */
    private static void fromTheFirstDay() {
        int[] days = {0, 1, 50, 99};
        for (int began : days) {
            BetweenLaws x = new BetweenLaws();
            Checks.law(x, 0, 100, "*:1/a,t7b");
            x.piece(began, 0);
            for (int day = 0; day < 100; day++) {
                due("24: start on " + day, day < began ? STATE : began, x.term(0, day, 0));
                due("24: end on " + day, day < began ? STATE : began + 7, x.term(0, day, 1));
            }
        }
    }

    /** Else by WAY: c: START and TERM; b: START is that DAY, END that and TERM; l: the lesser one. */
    private static void endByEachWay() {
        String[] words = {"t9c", "t10c", "t0c", "t9b", "t0b", "t9l", "t10l", "t11l", "t0l"};
        int[] starts = {10, 10, 10, 30, 30, 10, 10, 10, 10};
        int[] ends = {19, 20, 10, 39, 30, 39, 40, 40, 30};
        for (int n = 0; n < words.length; n++) {
            BetweenLaws x = new BetweenLaws();
            Checks.law(x, 0, 30, "*:1/a,t30c");
            Checks.law(x, 30, 100, "*:2/a," + words[n]);
            x.piece(10, 0);
            due("24: end ahead of " + words[n], 40, x.term(0, 29, 1));
            due("24: start by " + words[n], starts[n], x.term(0, 30, 0));
            due("24: end by " + words[n], ends[n], x.term(0, 30, 1));
            due("25: whole by " + words[n], Math.max(30, ends[n]), x.whole(0, 0));
            int term = Integer.parseInt(words[n].replaceAll("\\D", ""));
            int[] whole = {Math.max(30, ends[n]), Math.max(30, 10 + term), 30 + term, Math.min(40, 30 + term)};
            for (int way = 1; way <= 3; way++) due("25: " + words[n] + " by way " + way, whole[way], x.whole(0, way));
        }
    }

    /** TERM is 0 to 99, so END may be far behind DAY 99. */
    private static void farthestEnd() {
        BetweenLaws x = new BetweenLaws();
        Checks.law(x, 0, 100, "*:1/a,t99c");
        x.piece(99, 0);
        x.piece(0, 0);
        x.piece(1, 0);
        due("24: end", 198, x.term(0, 99, 1));
        due("25: not by day 99", NONE, x.whole(0, 0));
        due("24: end", 99, x.term(1, 0, 1));
        due("25: on day 99", 99, x.whole(1, 0));
        due("24: end", 100, x.term(2, 1, 1));
        due("25: a day too late", NONE, x.whole(2, 0));
        Checks.anew(x, 0, "*:1/a,t0b");
        due("24: end", 99, x.term(0, 99, 1));
        due("25: at once, on day 99", 99, x.whole(0, 0));
        due("25: at once, on day 0", 0, x.whole(1, 0));
    }

    /** WHOLE: from the first DAY that is no less than END: also where END is set behind it, or put off on it. */
    private static void noLessThanEnd() {
        for (int term = 18; term <= 22; term++) {
            BetweenLaws x = new BetweenLaws();
            Checks.law(x, 0, 30, "*:1/a,t" + term + "c");
            Checks.law(x, 30, 100, "*:2/a,t60b");
            x.piece(10, 0);
            due("25: term " + term, term < 20 ? 10 + term : 90, x.whole(0, 0));
            due("25: term " + term + ", all ways c", term < 20 ? 10 + term : 70, x.whole(0, 1));
            due("25: term " + term + ", all ways b", term < 20 ? 10 + term : 90, x.whole(0, 2));
            due("25: term " + term + ", all ways l", 10 + term, x.whole(0, 3));
        }
        BetweenLaws x = new BetweenLaws();
        Checks.law(x, 60, 61, "*:1/a,t5c");
        x.piece(10, 0);
        for (int way = 0; way <= 3; way++) due("25: end is ahead of the day it is set", 60, x.whole(0, way));
    }

    /** NONE: not by DAY 99. */
    private static void notByTheLastDay() {
        BetweenLaws x = new BetweenLaws();
        x.piece(10, 0);
        for (int way = 0; way <= 3; way++) due("25: no laws", NONE, x.whole(0, way));
        Checks.law(x, 0, 100, "*:1/a");
        for (int way = 0; way <= 3; way++) due("25: no term", NONE, x.whole(0, way));
        Checks.anew(x, 0, "*:1/a,t89l");
        for (int way = 0; way <= 3; way++) due("25: day 99", 99, x.whole(0, way));
        Checks.anew(x, 0, "*:1/a,t90l");
        for (int way = 0; way <= 3; way++) due("25: day 100", NONE, x.whole(0, way));
        Checks.anew(x, 0, "*:1/a,t89l");
        x.move(0, 1, 99);
        for (int way = 0; way <= 3; way++) due("25: there is no end on day 99", NONE, x.whole(0, way));
        x.set(1, 1);
        for (int way = 0; way <= 3; way++) due("25: behind: day 99", 99, x.whole(0, way));
        Checks.anew(x, 0, "*:1/a,t90l");
        for (int way = 0; way <= 3; way++) due("25: behind: day 100", NONE, x.whole(0, way));
        due("24: behind: end", 100, x.term(0, 99, 1));
    }
}
