/**
 * Promises 12 to 19, sentence by sentence: each one of the document that names a bound, a least or a greatest, a
 * first or a last day, something empty or full, has its own function here, ahead of which it stands.
 */
public final class PieceEdgesTest {
    private static final int OUTSIDE = Checks.OUTSIDE, FULL = Checks.FULL, NONE = Checks.NONE;
    private static final int A = 1, B = 2, E = 16, ALL = 31;

    public static void main(String[] args) {
        eightPieces();
        notAheadOfItsFirstDay();
        laterDaysTellTheSame();
        passagesOfTheJudged();
        isInForce();
        isBegun();
        firstFittingCase();
        firstDayOrLater();
        hadNotEndedAhead();
        laterFirst();
        moreMarksFirst();
        severalAlike();
        noneBehind();
        behindOnItsFirstDay();
        behindNotUndoneNow();
        firstThatIsNotSo();
        anotherGoverns();
        emptyAndFullSets();
        Checks.close("PieceEdgesTest");
    }

    private static void due(String call, long want, long got) {
        Checks.due(call, want, got);
    }

    /** PIECES, 8 at most, numbered from 0 on: MARKS (bits 0 to 31), begun on a DAY. */
    private static void eightPieces() {
        BetweenLaws x = new BetweenLaws();
        int[][] pieces = {{0, 0}, {99, ALL}, {0, ALL}, {99, 0}, {50, 1}, {50, E}, {1, 30}, {98, 15}};
        for (int p = 0; p < 8; p++) {
            due("13: it is not there yet", Checks.UNKNOWN, x.about(p, 0));
            due("12: piece", p, x.piece(pieces[p][0], pieces[p][1]));
            due("37: how many", p + 1, x.told(1));
        }
        due("12: the ninth", FULL, x.piece(0, 0));
        due("12: none of day 100, even then", OUTSIDE, x.piece(100, 0));
        due("12: none of marks 32, even then", OUTSIDE, x.piece(0, 32));
        due("37: how many", 8, x.told(1));
        for (int p = 0; p < 8; p++) {
            int[] due = {pieces[p][0], NONE, NONE, pieces[p][1], NONE};
            for (int what = 0; what < 5; what++) due("13: about(" + p + ", " + what + ")", due[what], x.about(p, what));
        }
    }

    /** Ended on a DAY (not ahead of that) or not (at first), JUDGED on one (likewise). */
    private static void notAheadOfItsFirstDay() {
        for (int began = 0; began < 100; began += 33) {
            for (int what = 1; what <= 2; what++) {
                BetweenLaws x = new BetweenLaws();
                x.piece(began, 0);
                int was = NONE;
                for (int v = -3; v <= 102; v++) {
                    boolean may = v == -1 || v >= began && v <= 99;
                    due("14: began " + began + ", change(0, " + what + ", " + v + ")", may ? was : OUTSIDE, x.change(0, what, v));
                    if (may) was = v == -1 ? NONE : v;
                    due("13: which it is", was, x.about(0, what));
                }
                due("13: the other one is not", NONE, x.about(0, 3 - what));
                due("14: not any more", 99, x.change(0, what, -1));
            }
        }
        BetweenLaws x = new BetweenLaws();
        x.piece(40, 0);
        x.change(0, 1, 50);
        due("14: judged ahead of its end", NONE, x.change(0, 2, 45));
        due("14: ended behind that", 50, x.change(0, 1, 90));
        due("14: judged on its end", 45, x.change(0, 2, 90));
    }

    /** A world in which much changes from DAY to DAY. */
    private static BetweenLaws changing() {
        BetweenLaws x = new BetweenLaws();
        Checks.law(x, 0, 40, "a:1|*:@4/a?n");
        Checks.law(x, 20, 60, "b:@0|*:2/n?a,t9c");
        Checks.law(x, 30, 50, "a:3/h,t9b,u1");
        Checks.law(x, 45, 90, "*:@4/a,u2");
        Checks.law(x, 70, 80, "*:@3|a:4/a?h,w");
        x.piece(25, A + B);
        x.wish(0, 3);
        x.set(1, 1);
        x.set(2, 1);
        return x;
    }

    /** Of a PIECE that is JUDGED all later DAYS tell what that DAY does (its DAY: the lesser one of both). */
    private static void laterDaysTellTheSame() {
        String[] ofPiece = {"governs", "gives", "ways"};
        String[] ofDay = {"sum", "those", "hangs"};
        for (int judged = 25; judged <= 99; judged++) {
            if (judged % 5 != 0 && judged % 5 != 4) continue;
            BetweenLaws x = changing();
            x.change(0, 2, judged);
            BetweenLaws y = changing();
            for (int day = 20; day <= 99; day += day == judged || day == judged - 1 || day == 98 ? 1 : 7) {
                int its = Math.min(day, judged);
                String on = " on " + day + ", judged on " + judged;
                for (String name : ofPiece) {
                    due(name + on, Calls.answer(y, name, 0, its, 0), Calls.answer(x, name, 0, day, 0));
                }
                for (String name : ofDay) {
                    for (int what = 0; what <= 1; what++) {
                        due(name + on, Calls.answer(y, name, its, what, 0), Calls.answer(x, name, day, what, 0));
                    }
                }
                due("those" + on, y.those(its, 2), x.those(day, 2));
                due("read" + on, y.read(0, its, 3), x.read(0, day, 3));
                for (int i = -1; i <= 1; i++) due("route" + on, y.route(0, its, i), x.route(0, day, i));
                due("why" + on, y.why(3, 0, its), x.why(3, 0, day));
                due("meets" + on, y.meets(1, 0, its), x.meets(1, 0, day));
            }
        }
    }

    /** JUDGED does not matter for PASSAGES, TERM. */
    private static void passagesOfTheJudged() {
        BetweenLaws y = changing();
        for (int judged = 25; judged <= 99; judged += 37) {
            BetweenLaws x = changing();
            x.change(0, 2, judged);
            int many = y.passage(0, -1, 0);
            due("23: how many, judged on " + judged, many, x.passage(0, -1, 0));
            for (int i = 0; i < many; i++) {
                due("23: the day", y.passage(0, i, 0), x.passage(0, i, 0));
                due("23: the law", y.passage(0, i, 1), x.passage(0, i, 1));
            }
            for (int day = 25; day <= 99; day += 2) {
                due("24: start", y.term(0, day, 0), x.term(0, day, 0));
                due("24: end", y.term(0, day, 1), x.term(0, day, 1));
            }
            for (int way = 0; way <= 3; way++) due("25: way " + way, y.whole(0, way), x.whole(0, way));
        }
    }

    /** A LAW MEETS a PIECE on a DAY, if: 1 it is in FORCE. */
    private static void isInForce() {
        BetweenLaws x = new BetweenLaws();
        Checks.law(x, 0, 1, "*:1/a");
        Checks.law(x, 99, 100, "*:2/a");
        Checks.law(x, 0, 100, "*:3/a");
        Checks.law(x, 1, 99, "*:4/a");
        x.piece(0, 0);
        int[] days = {0, 1, 50, 98, 99};
        int[][] meets = {{1, 0, 1, 0}, {0, 0, 1, 1}, {0, 0, 1, 1}, {0, 0, 1, 1}, {0, 1, 1, 0}};
        for (int d = 0; d < days.length; d++) {
            for (int law = 0; law < 4; law++) {
                due("16: law " + law + " on day " + days[d], meets[d][law], x.meets(law, 0, days[d]));
                if (meets[d][law] == 0) due("17: law " + law + " on day " + days[d], 1, x.why(law, 0, days[d]));
            }
        }
    }

    /** 3 the PIECE is begun. */
    private static void isBegun() {
        int[] days = {0, 1, 98, 99};
        for (int began : days) {
            BetweenLaws x = new BetweenLaws();
            Checks.law(x, 0, 100, "*:1/a");
            x.piece(began, 0);
            for (int day = 0; day < 100; day++) {
                boolean begun = day >= began;
                String on = "begun on " + began + ", day " + day;
                due("16: " + on, begun ? 1 : 0, x.meets(0, 0, day));
                due("17: " + on, begun ? 0 : 3, x.why(0, 0, day));
                due("18: " + on, begun ? 0 : NONE, x.governs(0, day));
                due("19: " + on, begun ? 1 : 0, x.those(day, 3));
            }
        }
    }

    /** 4 some CASE fits (all MARKS that the CASE tells are the PIECE's; * fits all): the first such. */
    private static void firstFittingCase() {
        String text = "abcde:1|bd:2|c:3|ae:4|d:5|*:6";
        int[] cases = {ALL, 10, 4, 17, 8, 0};
        BetweenLaws x = new BetweenLaws();
        Checks.law(x, 0, 100, text + "/a");
        Checks.law(x, 0, 100, text.substring(0, text.length() - 4) + "/a");
        for (int marks = 0; marks <= ALL; marks++) {
            if (marks == 0) x.piece(0, 0);
            x.change(0, 3, marks);
            int first = 0;
            while ((cases[first] & marks) != cases[first]) first++;
            due("20: marks " + marks, first + 1, x.gives(0, 0));
            due("16: without *, marks " + marks, first < 5 ? 1 : 0, x.meets(1, 0, 0));
            due("17: without *, marks " + marks, first < 5 ? 6 : 4, x.why(1, 0, 0));
            due("19: two, marks " + marks, first < 5 ? 1 : 0, x.those(0, 0));
        }
    }

    /** By TIME: n: it began on the LAW's first DAY or later. */
    private static void firstDayOrLater() {
        int[] firsts = {0, 1, 50, 99};
        for (int first : firsts) {
            BetweenLaws x = new BetweenLaws();
            Checks.law(x, first, 100, "*:1");
            int[] began = {0, first - 1, first, first + 1, 99};
            int p = 0;
            for (int day : began) {
                if (day < 0 || day > 99) continue;
                x.piece(day, 0);
                due("16: first day " + first + ", began " + day, day >= first ? 1 : 0, x.meets(0, p, 99));
                due("17: first day " + first + ", began " + day, day >= first ? 0 : 5, x.why(0, p, 99));
                p++;
            }
        }
    }

    /** h: so, or it had not ended ahead of that; by w: it had not ended ahead of the LAW's first DAY. */
    private static void hadNotEndedAhead() {
        String[] words = {"h", "h,w", "a", "a,w", "n", "n,w", "w"};
        int[] ended = {49, 50, 51, 99, NONE};
        for (String word : words) {
            BetweenLaws x = new BetweenLaws();
            Checks.law(x, 50, 100, "*:1/" + word);
            for (int p = 0; p < ended.length; p++) {
                x.piece(49, 0);
                if (ended[p] != NONE) x.change(p, 1, ended[p]);
                boolean had = ended[p] == 49;
                boolean meets = word.startsWith("h") ? !had : word.startsWith("a") && !(had && word.endsWith("w"));
                due("16: " + word + ", ended " + ended[p], meets ? 1 : 0, x.meets(0, p, 99));
                due("26: " + word + ", ended " + ended[p], word.equals("a") ? 1 : 0, x.taken(0));
            }
            x.piece(50, 0);
            x.change(5, 1, 50);
            due("16: " + word + ", began and ended on its first day", 1, x.meets(0, 5, 99));
        }
    }

    /** ORDER 0: that GOVERNS which began last, of like ones whose CASE has more MARKS (* has none). */
    private static void laterFirst() {
        BetweenLaws x = new BetweenLaws();
        Checks.law(x, 11, 100, "*:1/a");
        Checks.law(x, 10, 100, "abcde:2/a");
        Checks.law(x, 10, 100, "a:3/a");
        Checks.law(x, 10, 100, "*:4/a");
        x.piece(0, ALL);
        due("18: one day later", 0, x.governs(0, 11));
        due("18: more marks", 1, x.governs(0, 10));
        x.change(0, 3, A);
        due("18: one mark more than *", 2, x.governs(0, 10));
        due("19: not two", 0, x.those(10, 0));
        x.change(0, 3, 0);
        due("18: * alone", 3, x.governs(0, 10));
        x.change(0, 3, ALL);
        x.move(0, 0, 10);
        due("18: no longer later", 1, x.governs(0, 11));
    }

    /** ORDER 1: which has more MARKS, of like ones which began last. */
    private static void moreMarksFirst() {
        BetweenLaws x = new BetweenLaws();
        due("15: order", 0, x.set(0, 1));
        Checks.law(x, 10, 100, "ab:1/a");
        Checks.law(x, 99, 100, "a:2/a");
        Checks.law(x, 11, 100, "ae:3/a");
        Checks.law(x, 99, 100, "*:4/a");
        x.piece(0, ALL);
        due("18: of like ones which began last", 2, x.governs(0, 99));
        x.change(0, 3, A + B);
        due("18: one mark more", 0, x.governs(0, 99));
        x.change(0, 3, A);
        due("18: one mark more than *", 1, x.governs(0, 99));
        due("19: not two", 0, x.those(99, 0));
        x.change(0, 3, 0);
        due("18: * has none", 3, x.governs(0, 99));
        due("15: order", 1, x.set(0, 0));
        x.change(0, 3, ALL);
        due("18: by order 0", 1, x.governs(0, 99));
    }

    /** TWO: if several are alike in both, the least number. */
    private static void severalAlike() {
        for (int order = 0; order <= 1; order++) {
            BetweenLaws x = new BetweenLaws();
            x.set(0, order);
            x.piece(20, A + B);
            Checks.law(x, 10, 100, "a:0/a");
            due("19: one", 0, x.those(50, 0));
            for (int law = 1; law < 8; law++) {
                Checks.law(x, 10, 100, (law % 2 == 0 ? "a:" : "b:") + law + "/a");
                due("18: the least of " + (law + 1), 0, x.governs(0, 50));
                due("19: two", 1, x.those(50, 0));
                due("17: another one governs", 6, x.why(law, 0, 50));
            }
            for (int law = 0; law < 6; law++) {
                x.move(law, 1, 50);
                due("18: the least", law + 1, x.governs(0, 50));
                due("19: two", 1, x.those(50, 0));
            }
            x.move(6, 1, 50);
            due("18: the last", 7, x.governs(0, 50));
            due("19: one", 0, x.those(50, 0));
            due("19: it was two", 1, x.those(49, 0));
            x.move(7, 0, 11);
            due("19: not alike in both", 0, x.those(49, 0) & 2);
            due("18: by the day", 7, x.governs(0, 49));
            Checks.anew(x, 3, "ab:3/a");
            due("18: by days, or marks", order == 0 ? 7 : 3, x.governs(0, 49));
            due("19: one", 0, x.those(49, 0));
            x.move(7, 0, 10);
            due("18: by marks", 3, x.governs(0, 49));
            due("19: one", 0, x.those(49, 0));
        }
    }

    /** If none MEETS it: BEHIND 0 (at first): none. */
    private static void noneBehind() {
        BetweenLaws x = new BetweenLaws();
        x.piece(10, A);
        due("18: no laws", NONE, x.governs(0, 10));
        due("15: behind", 0, x.set(1, 1));
        due("18: no laws behind", NONE, x.governs(0, 99));
        Checks.law(x, 10, 11, "a:1");
        due("18: behind", 0, x.governs(0, 99));
        due("15: behind", 1, x.set(1, 0));
        due("18: none", NONE, x.governs(0, 99));
        due("18: in force", 0, x.governs(0, 10));
        due("19: none governs", 1, x.those(11, 1));
    }

    /** BEHIND 1: if it is begun, as by those in FORCE on the DAY it began that have a CASE that fits. */
    private static void behindOnItsFirstDay() {
        BetweenLaws x = new BetweenLaws();
        x.set(1, 1);
        Checks.law(x, 10, 20, "a:1");
        int[] began = {9, 10, 19, 20};
        for (int p = 0; p < began.length; p++) {
            x.piece(began[p], A);
            boolean behind = p == 1 || p == 2;
            due("18: begun on " + began[p], behind ? 0 : NONE, x.governs(p, 20));
            due("18: on the last day", behind ? 0 : NONE, x.governs(p, 99));
            due("17: begun on " + began[p], behind ? 0 : 1, x.why(0, p, 20));
            due("16: it does not meet it", 0, x.meets(0, p, 20));
            if (began[p] > 0) due("18: not begun", NONE, x.governs(p, began[p] - 1));
            x.change(p, 3, B);
            due("18: no case", NONE, x.governs(p, 99));
            x.change(p, 3, A + B);
            due("18: a case", behind ? 0 : NONE, x.governs(p, 99));
        }
        BetweenLaws y = new BetweenLaws();
        y.set(1, 1);
        Checks.law(y, 5, 20, "a:1|*:3/n");
        Checks.law(y, 5, 20, "*:2/w");
        y.piece(5, A);
        due("18: by order", 0, y.governs(0, 20));
        due("19: not two", 0, y.those(20, 0));
        y.change(0, 3, 0);
        due("18: the least", 0, y.governs(0, 20));
        due("19: two", 1, y.those(20, 0));
        y.move(1, 0, 4);
        due("18: which began last", 0, y.governs(0, 20));
        y.change(0, 3, A);
        y.set(0, 1);
        due("18: more marks", 0, y.governs(0, 20));
        due("19: not two", 0, y.those(20, 0));
    }

    /** Not UNDONE now. */
    private static void behindNotUndoneNow() {
        BetweenLaws x = new BetweenLaws();
        x.set(1, 1);
        Checks.law(x, 0, 10, "*:1");
        Checks.law(x, 20, 30, "e:2/u0");
        Checks.law(x, 5, 6, "e:3/u0");
        x.piece(5, 0);
        int[][] due = {{5, NONE}, {6, 0}, {10, 0}, {19, 0}, {20, NONE}, {29, NONE}, {30, 0}, {99, 0}};
        for (int[] day : due) due("18: day " + day[0], day[1], x.governs(0, day[0]));
        due("17: undone", 2, x.why(0, 0, 5));
        due("17: not in force ahead of undone", 1, x.why(0, 0, 20));
        due("17: it governs", 0, x.why(0, 0, 30));
        due("19: none governs", 1, x.those(29, 1));
        x.change(0, 2, 29);
        due("18: judged when it was undone", NONE, x.governs(0, 99));
        x.change(0, 2, 19);
        due("18: judged ahead of that", 0, x.governs(0, 25));
    }

    /** WHY: 1 to 5 the first of these that is not so: each set of them that can be. */
    private static void firstThatIsNotSo() {
        for (int set = 0; set < 64; set++) {
            boolean later = (set & 32) != 0;
            boolean notForce = (set & 1) != 0;
            boolean undone = (set & 2) != 0;
            boolean notBegun = (set & 4) != 0;
            boolean noCase = (set & 8) != 0;
            boolean notTime = (set & 16) != 0;
            if (notBegun && notTime && !(notForce && later)) continue;
            BetweenLaws x = new BetweenLaws();
            int from = !notForce ? 28 : later ? 40 : 5;
            int till = !notForce || later ? 60 : 30;
            Checks.law(x, from, till, notTime ? "a:1/n" : "a:1/a");
            Checks.law(x, 0, 100, undone ? "e:2/a,u0" : "e:2/a");
            int began = notBegun ? 31 : notTime ? Math.min(30, from - 1) : 25;
            x.piece(began, noCase ? B : A);
            int due = notForce ? 1 : undone ? 2 : notBegun ? 3 : noCase ? 4 : notTime ? 5 : 0;
            due("17: why of " + set, due, x.why(0, 0, 30));
            due("16: meets of " + set, due == 0 ? 1 : 0, x.meets(0, 0, 30));
            due("18: governs of " + set, due == 0 ? 0 : NONE, x.governs(0, 30));
        }
    }

    /** 6 another one GOVERNS. */
    private static void anotherGoverns() {
        BetweenLaws x = new BetweenLaws();
        for (int law = 0; law < 8; law++) Checks.law(x, 10 + law, 20 + law, "a:" + law + "/a");
        x.piece(0, A);
        for (int day = 8; day <= 30; day++) {
            for (int law = 0; law < 8; law++) {
                boolean in = day >= 10 + law && day < 20 + law;
                boolean last = law == 7 || day == 10 + law;
                due("17: law " + law + " on " + day, !in ? 1 : last ? 0 : 6, x.why(law, 0, day));
            }
        }
    }

    /** PIECES on a DAY, as bits: none of none, all 8 of 8. */
    private static void emptyAndFullSets() {
        BetweenLaws x = new BetweenLaws();
        for (int how = 0; how <= 3; how++) due("19: no pieces", 0, x.those(99, how));
        for (int p = 0; p < 8; p++) x.piece(99, 0);
        int[] without = {0, 255, 0, 255};
        for (int how = 0; how <= 3; how++) {
            due("19: not begun", 0, x.those(98, how));
            due("19: no laws", without[how], x.those(99, how));
        }
        Checks.law(x, 0, 100, "*:@0/a");
        Checks.law(x, 0, 100, "*:@1/a");
        int[] with = {255, 0, 255, 255};
        for (int how = 0; how <= 3; how++) due("19: two, in rings", with[how], x.those(99, how));
        for (int p = 0; p < 8; p++) x.change(p, 2, 99);
        for (int how = 0; how <= 3; how++) due("19: judged", with[how], x.those(99, how));
    }
}
