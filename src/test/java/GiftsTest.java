/** Promises 20 to 25: what PIECES GIVE, by sendings, the milder; PASSAGES, TERM, WHOLE. */
public final class GiftsTest {
    private static final int UNKNOWN = Checks.UNKNOWN, OUTSIDE = Checks.OUTSIDE, STATE = Checks.STATE;
    private static final int NONE = Checks.NONE;
    private static final int A = 1, B = 2;

    public static void main(String[] args) {
        gives();
        givesBySendings();
        givesInRings();
        givesTheMilder();
        givesTheMilderOnlyOfNumbers();
        route();
        sum();
        passages();
        passagesOfNone();
        term();
        termByEachWay();
        termWithoutEnd();
        whole();
        Checks.close("GiftsTest");
    }

    private static void due(String call, long want, long got) {
        Checks.due(call, want, got);
    }

    private static void gives() {
        BetweenLaws x = new BetweenLaws();
        due("20: no piece", UNKNOWN, x.gives(0, 0));
        x.piece(10, A + B);
        due("20: no law", NONE, x.gives(0, 10));
        Checks.law(x, 0, 50, "b:0|a:99/a");
        due("20: the first case that fits", 0, x.gives(0, 10));
        x.change(0, 3, A);
        due("20: the other one", 99, x.gives(0, 10));
        due("20: not begun", NONE, x.gives(0, 9));
        due("20: not in force", NONE, x.gives(0, 50));
        x.change(0, 3, 0);
        due("20: none fits", NONE, x.gives(0, 10));
        x.change(0, 3, A);
        x.change(0, 2, 49);
        due("20: judged", 99, x.gives(0, 50));
        due("20: unknown ahead of outside", UNKNOWN, x.gives(1, 100));
        due("20: day", OUTSIDE, x.gives(0, 100));
        due("20: day", OUTSIDE, x.gives(0, -1));
    }

    private static void givesBySendings() {
        BetweenLaws x = new BetweenLaws();
        Checks.law(x, 0, 100, "*:@1/a");
        x.piece(10, A);
        due("20: sent to nothing", NONE, x.gives(0, 10));
        Checks.law(x, 90, 91, "a:@2|*:8/n,w");
        due("20: sent to nothing behind that", NONE, x.gives(0, 10));
        Checks.law(x, 0, 1, "b:1|a:7/n");
        due("20: to laws that are not in force and do not meet it", 7, x.gives(0, 10));
        x.change(0, 3, 0);
        due("20: each by its own fitting case", 8, x.gives(0, 10));
        Checks.anew(x, 1, "a:@2");
        due("20: no case there fits", NONE, x.gives(0, 10));
        x.change(0, 3, A);
        Checks.law(x, 20, 30, "c:1/u2");
        due("20: sent to what is not undone", 7, x.gives(0, 19));
        due("20: sent to what is undone", NONE, x.gives(0, 20));
        due("20: no more", 7, x.gives(0, 30));
        x.change(0, 2, 25);
        due("20: judged when it was undone", NONE, x.gives(0, 30));
    }

    private static void givesInRings() {
        BetweenLaws x = new BetweenLaws();
        Checks.law(x, 0, 100, "a:@0|b:@1|*:@2/a");
        Checks.law(x, 0, 1, "*:@2");
        Checks.law(x, 0, 1, "b:@1|*:6");
        x.piece(10, A);
        due("20: a ring of one", STATE, x.gives(0, 10));
        due("21: how many", 1, x.route(0, 10, -1));
        x.change(0, 3, B);
        due("20: a ring that it comes into", STATE, x.gives(0, 10));
        due("21: how many", 3, x.route(0, 10, -1));
        due("21: the last", 2, x.route(0, 10, 2));
        due("21: none more", NONE, x.route(0, 10, 3));
        x.change(0, 3, 0);
        due("20: no ring", 6, x.gives(0, 10));
        due("22: a ring is no number", 6, x.sum(10));
        x.piece(10, A);
        due("22: a ring is no number", 6, x.sum(10));
    }

    private static void givesTheMilder() {
        BetweenLaws x = new BetweenLaws();
        Checks.law(x, 0, 100, "*:30/a");
        Checks.law(x, 40, 100, "a:50|*:20/a");
        x.piece(10, A);
        x.piece(10, 0);
        x.piece(40, A);
        due("20: as it is", 50, x.gives(0, 40));
        x.set(2, 1);
        due("20: the first one is milder", 30, x.gives(0, 40));
        due("20: the later one is milder", 20, x.gives(1, 40));
        due("20: it began with the law", 50, x.gives(2, 40));
        due("20: ahead of that", 30, x.gives(1, 39));
        due("22: sum", 100, x.sum(40));
        x.change(0, 2, 39);
        due("20: judged", 30, x.gives(0, 99));
        due("20: not begun", NONE, x.gives(0, 9));
        due("21: the route is not milder", 1, x.route(0, 40, 0) + x.route(1, 40, 0));
        x.set(2, 0);
        due("20: no more", 50, x.gives(2, 40));
        due("22: sum", 100, x.sum(40));
        x.change(0, 2, -1);
        due("22: sum", 120, x.sum(40));
    }

    private static void givesTheMilderOnlyOfNumbers() {
        BetweenLaws x = new BetweenLaws();
        x.set(2, 1);
        Checks.law(x, 20, 100, "*:9/a");
        x.piece(10, 0);
        due("20: nothing then", 9, x.gives(0, 20));
        Checks.law(x, 0, 15, "*:@1/a");
        due("20: a ring then", 9, x.gives(0, 20));
        Checks.anew(x, 1, "*:4/a");
        due("20: a number then", 4, x.gives(0, 20));
        Checks.anew(x, 0, "*:@0/a");
        due("20: a ring now", STATE, x.gives(0, 20));
        Checks.anew(x, 0, "*:@7/a");
        due("20: nothing now", NONE, x.gives(0, 20));
        Checks.anew(x, 0, "*:9/a,u1");
        due("20: undone now, but not then", 4, x.gives(0, 20));
        Checks.law(x, 10, 11, "*:77/t1c,u1");
        due("20: undone then", 9, x.gives(0, 20));
        Checks.anew(x, 2, "e:77");
        Checks.anew(x, 1, "*:0/a");
        due("20: the number 0 then", 0, x.gives(0, 20));
        Checks.anew(x, 0, "*:0/a");
        Checks.anew(x, 1, "*:3/a");
        due("20: the number 0 now", 0, x.gives(0, 20));
        BetweenLaws z = new BetweenLaws();
        z.set(2, 1);
        Checks.law(z, 10, 100, "*:9/a");
        Checks.law(z, 10, 15, "a:4/a");
        z.piece(10, A);
        due("20: on the day it began", 4, z.gives(0, 10));
        due("20: the law that governs did not begin later", 9, z.gives(0, 20));
        BetweenLaws y = new BetweenLaws();
        y.set(2, 1);
        y.set(1, 1);
        Checks.law(y, 5, 15, "*:9/a");
        y.piece(10, 0);
        due("20: behind", 9, y.gives(0, 50));
    }

    private static void route() {
        BetweenLaws x = new BetweenLaws();
        due("21: no piece", UNKNOWN, x.route(0, 0, -1));
        x.piece(10, A);
        due("21: none governs", 0, x.route(0, 10, -1));
        due("21: none governs", NONE, x.route(0, 10, 0));
        Checks.law(x, 0, 50, "*:@2/a");
        Checks.law(x, 50, 100, "*:5/a");
        Checks.law(x, 0, 1, "a:@1");
        int[] path = {0, 2, 1};
        due("21: how many", 3, x.route(0, 10, -1));
        for (int i = 0; i < 3; i++) due("21: the i-th", path[i], x.route(0, 10, i));
        due("21: behind the last", NONE, x.route(0, 10, 3));
        due("21: below -1", NONE, x.route(0, 10, -2));
        due("21: far", NONE, x.route(0, 10, Integer.MAX_VALUE));
        due("21: a number at once", 1, x.route(0, 50, -1));
        due("21: law 1", 1, x.route(0, 50, 0));
        due("21: not begun", 0, x.route(0, 9, -1));
        x.change(0, 3, 0);
        due("21: it does not come to what does not fit", 1, x.route(0, 10, -1));
        x.change(0, 2, 49);
        due("21: judged", 0, x.route(0, 50, 0));
        due("21: unknown ahead of outside", UNKNOWN, x.route(1, 100, -1));
        due("21: day", OUTSIDE, x.route(0, 100, -1));
        due("21: day", OUTSIDE, x.route(0, -1, 0));
    }

    private static void sum() {
        BetweenLaws x = new BetweenLaws();
        due("22: nothing", 0, x.sum(0));
        Checks.law(x, 10, 100, "a:99|b:1|c:@7|d:@0/a");
        for (int p = 0; p < 5; p++) x.piece(10 + p, 1 << p);
        due("22: ahead of all", 0, x.sum(9));
        due("22: one", 99, x.sum(10));
        due("22: two", 100, x.sum(11));
        due("22: none and rings do not count", 100, x.sum(14));
        x.piece(50, A);
        due("22: three", 199, x.sum(50));
        due("22: day", OUTSIDE, x.sum(100));
        due("22: day", OUTSIDE, x.sum(-1));
    }

    private static void passages() {
        BetweenLaws x = new BetweenLaws();
        due("23: no piece", UNKNOWN, x.passage(0, -1, 0));
        Checks.law(x, 0, 100, "*:1/a");
        Checks.law(x, 20, 30, "*:2/a");
        Checks.law(x, 30, 40, "*:2/a");
        Checks.law(x, 35, 36, "*:2/n");
        Checks.law(x, 99, 100, "*:2/a");
        x.piece(10, 0);
        int[][] due = {{10, 0}, {20, 1}, {30, 2}, {40, 0}, {99, 4}};
        for (int judged = -1; judged <= 15; judged += 16) {
            x.change(0, 2, judged);
            due("23: how many", 5, x.passage(0, -1, 0));
            due("23: how many, by the other what", 5, x.passage(0, -1, 1));
            for (int i = 0; i < due.length; i++) {
                due("23: the day of passage " + i, due[i][0], x.passage(0, i, 0));
                due("23: the law of passage " + i, due[i][1], x.passage(0, i, 1));
            }
        }
        due("23: there is no such one", NONE, x.passage(0, 5, 0));
        due("23: there is no such one", NONE, x.passage(0, 5, 1));
        due("23: below -1", NONE, x.passage(0, -2, 0));
        due("23: far", NONE, x.passage(0, Integer.MAX_VALUE, 0));
        due("23: what", OUTSIDE, x.passage(0, 0, 2));
        due("23: what", OUTSIDE, x.passage(0, -1, -1));
        due("23: unknown ahead of outside", UNKNOWN, x.passage(1, 0, 2));
        x.piece(99, 0);
        due("23: the last day", 1, x.passage(1, -1, 0));
        due("23: the last day", 99, x.passage(1, 0, 0));
    }

    private static void passagesOfNone() {
        BetweenLaws x = new BetweenLaws();
        x.piece(10, 0);
        due("23: its first day, too", 1, x.passage(0, -1, 0));
        due("23: its first day", 10, x.passage(0, 0, 0));
        due("23: none", NONE, x.passage(0, 0, 1));
        Checks.law(x, 20, 30, "*:1/a");
        due("23: none is as a law", 3, x.passage(0, -1, 0));
        due("23: from none", 20, x.passage(0, 1, 0));
        due("23: to none", 30, x.passage(0, 2, 0));
        due("23: to none", NONE, x.passage(0, 2, 1));
        Checks.law(x, 5, 15, "*:1/n");
        due("23: none between", 4, x.passage(0, -1, 0));
        x.set(1, 1);
        due("23: behind there is always one", 3, x.passage(0, -1, 0));
        due("23: back to it", 1, x.passage(0, 2, 1));
    }

    private static void term() {
        BetweenLaws x = new BetweenLaws();
        due("24: no piece", UNKNOWN, x.term(0, 0, 0));
        x.piece(10, 0);
        due("24: no law: start", 10, x.term(0, 10, 0));
        due("24: no law: no end", NONE, x.term(0, 99, 1));
        Checks.law(x, 0, 100, "*:1/a,t99c");
        due("24: end", 109, x.term(0, 10, 1));
        due("24: start", 10, x.term(0, 99, 0));
        x.change(0, 2, 10);
        Checks.law(x, 50, 60, "*:1/a,t0b");
        due("24: it does not matter that it was judged", 50, x.term(0, 50, 1));
        due("24: start", 50, x.term(0, 50, 0));
        due("24: ahead of that", 109, x.term(0, 49, 1));
        due("24: continued", 149, x.term(0, 60, 1));
        due("24: not begun", STATE, x.term(0, 9, 0));
        due("24: outside ahead of state", OUTSIDE, x.term(0, 9, 2));
        due("24: what", OUTSIDE, x.term(0, 10, -1));
        due("24: day", OUTSIDE, x.term(0, 100, 0));
        due("24: day", OUTSIDE, x.term(0, -1, 0));
        due("24: unknown ahead of outside", UNKNOWN, x.term(1, 100, 2));
    }

    private static void termByEachWay() {
        BetweenLaws x = new BetweenLaws();
        Checks.law(x, 0, 20, "*:1/a,t30c");
        Checks.law(x, 20, 40, "*:1/a,t25c?b");
        Checks.law(x, 40, 60, "*:1/a,t40b?c");
        Checks.law(x, 60, 80, "*:1/a,t30l?b");
        Checks.law(x, 80, 90, "*:1/a,t1l");
        Checks.law(x, 90, 100, "*:1/a,t50c");
        x.piece(10, 0);
        int[][] due = {{10, 10, 40}, {19, 10, 40}, {20, 10, 35}, {39, 10, 35}, {40, 40, 80}, {60, 40, 80}, {79, 40, 80},
            {80, 40, 80}, {90, 40, 90}, {99, 40, 90}};
        for (int[] row : due) {
            due("24: start on " + row[0], row[1], x.term(0, row[0], 0));
            due("24: end on " + row[0], row[2], x.term(0, row[0], 1));
        }
        Checks.anew(x, 3, "*:1/a,t10l");
        due("24: the lesser one is the law's", 70, x.term(0, 60, 1));
        due("24: start stays", 40, x.term(0, 60, 0));
    }

    private static void termWithoutEnd() {
        BetweenLaws x = new BetweenLaws();
        Checks.law(x, 15, 30, "*:1/a,t20b");
        Checks.law(x, 30, 40, "*:1/a");
        Checks.law(x, 40, 60, "*:1/a,t7l");
        Checks.law(x, 50, 60, "*:1/a,t9b");
        Checks.law(x, 70, 100, "*:1/a,t8b");
        x.piece(10, 0);
        int[][] due = {{14, 10, NONE}, {15, 10, 30}, {29, 10, 30}, {30, 10, NONE}, {40, 10, 17}, {50, 50, 59},
            {60, 50, NONE}, {69, 50, NONE}, {70, 50, 58}};
        for (int[] row : due) {
            due("24: start on " + row[0], row[1], x.term(0, row[0], 0));
            due("24: end on " + row[0], row[2], x.term(0, row[0], 1));
        }
        due("25: whole at once", 40, x.whole(0, 0));
    }

    private static void whole() {
        BetweenLaws x = new BetweenLaws();
        due("25: no piece", UNKNOWN, x.whole(0, 0));
        x.piece(10, 0);
        for (int way = 0; way <= 3; way++) due("25: no law", NONE, x.whole(0, way));
        Checks.law(x, 0, 20, "*:1/a,t30c");
        Checks.law(x, 20, 100, "*:1/a,t60l?c");
        due("25: by its own way", 40, x.whole(0, 0));
        due("25: by c", 70, x.whole(0, 1));
        due("25: by b", 80, x.whole(0, 2));
        due("25: by l", 40, x.whole(0, 3));
        x.change(0, 2, 10);
        due("25: it does not matter that it was judged", 80, x.whole(0, 2));
        Checks.anew(x, 1, "*:1/a,t79b");
        due("25: the last day", 99, x.whole(0, 0));
        due("25: the law's way does not matter", 89, x.whole(0, 1));
        Checks.anew(x, 1, "*:1/a,t80b");
        due("25: not by day 99", NONE, x.whole(0, 0));
        Checks.anew(x, 0, "*:1/a,t0c");
        due("25: on its first day", 10, x.whole(0, 0));
        Checks.anew(x, 0, "*:1/a,t10c");
        due("25: the end is carried on first", 40, withThird(x));
        due("25: way", OUTSIDE, x.whole(0, 4));
        due("25: way", OUTSIDE, x.whole(0, -1));
        due("25: unknown ahead of outside", UNKNOWN, x.whole(1, 4));
    }

    /** END would be the DAY of the PASSAGE that puts it off. */
    private static int withThird(BetweenLaws x) {
        Checks.anew(x, 1, "*:1/a,t20b");
        return x.whole(0, 0);
    }
}
