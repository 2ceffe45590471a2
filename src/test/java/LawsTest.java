/** Promises 1 to 11: the PAD, LAWS, what is in FORCE and UNDONE, OPEN words. */
public final class LawsTest {
    private static final int UNKNOWN = Checks.UNKNOWN, OUTSIDE = Checks.OUTSIDE, FULL = Checks.FULL;
    private static final int NO = Checks.NO, NONE = Checks.NONE;

    public static void main(String[] args) {
        constants();
        newObject();
        say();
        wipe();
        faultOfCases();
        faultOfWords();
        law();
        anew();
        move();
        of();
        part();
        force();
        undone();
        open();
        Checks.close("LawsTest");
    }

    private static void due(String call, long want, long got) {
        Checks.due(call, want, got);
    }

    private static void constants() {
        due("UNKNOWN", -1, BetweenLaws.UNKNOWN);
        due("OUTSIDE", -2, BetweenLaws.OUTSIDE);
        due("STATE", -3, BetweenLaws.STATE);
        due("FULL", -4, BetweenLaws.FULL);
        due("NO", -5, BetweenLaws.NO);
        due("NONE", -6, BetweenLaws.NONE);
    }

    private static void newObject() {
        BetweenLaws x = new BetweenLaws();
        for (int what = 0; what <= 5; what++) due("1: told(" + what + ")", 0, x.told(what));
        due("1: set(0, 0)", 0, x.set(0, 0));
        due("1: set(1, 0)", 0, x.set(1, 0));
        due("1: set(2, 0)", 0, x.set(2, 0));
        due("1: wipe()", 0, x.wipe());
        due("1: force(0, 0)", 0, x.force(0, 0));
        due("1: those(99, 3)", 0, x.those(99, 3));
        due("1: of(0, 0)", UNKNOWN, x.of(0, 0));
        due("1: about(0, 0)", UNKNOWN, x.about(0, 0));
        due("1: open(-1)", 0, x.open(-1));
        BetweenLaws y = new BetweenLaws();
        x.piece(1, 1);
        due("1: objects have nothing in common", 0, y.told(1));
    }

    private static void say() {
        BetweenLaws x = new BetweenLaws();
        int[] outside = {32, 127, 0, -1, Integer.MIN_VALUE, Integer.MAX_VALUE};
        for (int sign : outside) due("2: say(" + sign + ")", OUTSIDE, x.say(sign));
        due("2: say(33)", 1, x.say(33));
        due("2: say(126)", 2, x.say(126));
        for (int n = 3; n <= 60; n++) due("2: say", n, x.say('a'));
        due("2: the 61st", FULL, x.say('a'));
        due("2: outside ahead of full", OUTSIDE, x.say(32));
        due("2: it changed nothing", 60, x.told(2));
    }

    private static void wipe() {
        BetweenLaws x = new BetweenLaws();
        due("3: wipe()", 0, x.wipe());
        x.say('a');
        x.say('b');
        due("3: wipe()", 2, x.wipe());
        due("3: wipe()", 0, x.wipe());
        due("3: told(2)", 0, x.told(2));
        due("3: say", 1, x.say('c'));
    }

    private static void faults(String[] texts, int[] faults) {
        for (int i = 0; i < texts.length; i++) {
            BetweenLaws x = new BetweenLaws();
            Checks.say(x, texts[i]);
            due("4: fault() of " + texts[i], faults[i], x.fault());
            due("4: fault() again", faults[i], x.fault());
            due("4: the pad stays", texts[i].length(), x.told(2));
        }
    }

    private static void faultOfCases() {
        String six = "*:1|*:2|*:3|*:4|*:5|*:6";
        faults(new String[] {
            "", "*", "*:", "*:7", "*:77", "*:777", "*:@", "*:@0", "*:@7", "*:@8", "*:@77", "*:@@1", "7",
            "a", "abcde:0", "ace:00", "aa:1", "ba:1", "ab:7|ba", "e", "ef:1", "f:1", "A:1", ":1", "*a:1", "a*:1",
            "**:1", "a:x", "a:1:2", "a:1|", "a:1||", "|a:1", six, six + "|", six + "|*:7", six + "/w", "a:1?b",
            "a:1,b:2", "a:1w"},
            new int[] {
            0, 1, 2, NONE, NONE, 4, 3, NONE, NONE, 3, 4, 3, 0,
            1, NONE, NONE, 1, 1, 6, 1, 1, 0, 0, 0, 1, 1,
            1, 2, 3, 4, 4, 0, NONE, 23, 23, NONE, 3,
            3, 3});
    }

    private static void faultOfWords() {
        faults(new String[] {
            "*:1/", "*:1//", "*:1/,", "*:1/x", "*:1/n", "*:1/h", "*:1/a", "*:1/n,", "*:1/nh", "*:1/n,h", "*:1/n,n",
            "*:1/n?", "*:1/n?n", "*:1/n?h", "*:1/a?n", "*:1/h?h", "*:1/n?c", "*:1/n?h?a", "*:1/n?h,", "*:1/n/w",
            "*:1/w", "*:1/w,w", "*:1/w,n", "*:1/w?n", "*:1/a,w", "*:1/w,t1c",
            "*:1/t", "*:1/tc", "*:1/t5", "*:1/t55", "*:1/t555", "*:1/t5c", "*:1/t05b", "*:1/t99l", "*:1/t5n",
            "*:1/t5c?", "*:1/t5c?c", "*:1/t5c?b", "*:1/t5c?n", "*:1/t5c?b?l", "*:1/t5c,t6b", "*:1/t5c,w", "*:1/t5c,a",
            "*:1/u", "*:1/u8", "*:1/u0", "*:1/u77", "*:1/u0,u0,u7", "*:1/u0,t1c", "*:1/u0,w", "*:1/u0,n", "*:1/u?",
            "*:1/n,w,t10l,u1,u2", "*:1/h?a,w,t10l?c,u3", "*:1/n,u1", "*:1/w,h", "*:1/n|a:2", "*:@3/t0c"},
            new int[] {
            4, 4, 4, 4, NONE, NONE, NONE, 6, 5, 6, 6,
            6, 6, NONE, NONE, 6, 6, 7, 8, 5,
            NONE, 6, 6, 5, NONE, NONE,
            5, 5, 6, 7, 7, NONE, NONE, NONE, 6,
            8, 8, NONE, 8, 9, 8, 8, 8,
            5, 5, NONE, 6, NONE, 7, 7, 7, 5,
            NONE, NONE, NONE, 6, 5, NONE});
        BetweenLaws x = new BetweenLaws();
        StringBuilder full = new StringBuilder("*:1/w,t10c");
        for (int u = 0; u < 16; u++) full.append(",u0");
        Checks.say(x, full.toString());
        due("4: undoings, any number", NONE, x.fault());
        x.say(',');
        x.say('u');
        due("4: the pad is full", FULL, x.say('1'));
        due("4: more must come behind 60 signs", 60, x.fault());
    }

    private static void law() {
        BetweenLaws x = new BetweenLaws();
        due("5: nothing is said", NO, x.law(0, 1));
        due("5: outside ahead of no", OUTSIDE, x.law(-1, 1));
        Checks.say(x, "a:1");
        int[][] outside = {{-1, 5}, {100, 101}, {99, 101}, {5, 5}, {6, 5}, {0, 0}, {0, 101}, {0, -1},
            {Integer.MAX_VALUE, Integer.MIN_VALUE}, {100, 100}, {0, Integer.MAX_VALUE}};
        for (int[] force : outside) due("5: law(" + force[0] + ", " + force[1] + ")", OUTSIDE, x.law(force[0], force[1]));
        due("5: the pad stays", 3, x.told(2));
        due("5: law(0, 1)", 0, x.law(0, 1));
        due("5: the pad is empty", 0, x.told(2));
        due("5: fault()", 0, x.fault());
        due("5: law(99, 100)", 1, Checks.law(x, 99, 100, "b:2"));
        for (int law = 2; law < 8; law++) due("5: law", law, Checks.law(x, 0, 100, "*:" + law));
        Checks.say(x, "*:9");
        due("5: the ninth", FULL, x.law(0, 100));
        due("5: outside ahead of full", OUTSIDE, x.law(0, 101));
        due("5: the pad stays", 3, x.told(2));
        Checks.say(x, "*:9/");
        due("5: no ahead of full", NO, x.law(0, 100));
        due("5: told(0)", 8, x.told(0));
        due("5: the seventh law's gift", 6, x.part(6, 0, 1));
    }

    private static void anew() {
        BetweenLaws x = new BetweenLaws();
        due("6: anew(0)", UNKNOWN, x.anew(0));
        Checks.law(x, 10, 20, "a:1|b:2|c:3/h?a,w,t30c?b,u1,u2");
        due("6: unknown ahead of no", UNKNOWN, x.anew(1));
        due("6: anew(-1)", UNKNOWN, x.anew(-1));
        due("6: nothing is said", NO, x.anew(0));
        Checks.say(x, "d:@4|*:5/");
        due("6: a fault", NO, x.anew(0));
        due("6: the pad stays", 9, x.told(2));
        due("6: the law stays", 3, x.of(0, 2));
        due("6: its words stay", 'h', x.of(0, 3));
        due("6: anew", 2, Checks.anew(x, 0, "d:@4|*:5"));
        due("6: the pad is empty", 0, x.told(2));
        int[] all = {10, 20, 2, 'n', NONE, 0, NONE, NONE, NONE, 0};
        for (int what = 0; what < all.length; what++) due("6: of(0, " + what + ")", all[what], x.of(0, what));
        due("6: part(0, 0, 0)", 8, x.part(0, 0, 0));
        due("6: part(0, 0, 1)", 104, x.part(0, 0, 1));
        due("6: part(0, 2, 0)", UNKNOWN, x.part(0, 2, 0));
        due("6: told(0)", 1, x.told(0));
    }

    private static void move() {
        BetweenLaws x = new BetweenLaws();
        due("7: move(0, 0, 0)", UNKNOWN, x.move(0, 0, 0));
        Checks.law(x, 10, 20, "*:1");
        due("7: unknown ahead of outside", UNKNOWN, x.move(1, 7, -1));
        due("7: what", OUTSIDE, x.move(0, 2, 15));
        due("7: what", OUTSIDE, x.move(0, -1, 15));
        due("7: first day", OUTSIDE, x.move(0, 0, -1));
        due("7: not ahead of till", OUTSIDE, x.move(0, 0, 20));
        due("7: till not behind first", OUTSIDE, x.move(0, 1, 10));
        due("7: till", OUTSIDE, x.move(0, 1, 101));
        due("7: move(0, 0, 19)", 10, x.move(0, 0, 19));
        due("7: move(0, 1, 100)", 20, x.move(0, 1, 100));
        due("7: move(0, 0, 99)", 19, x.move(0, 0, 99));
        due("7: move(0, 0, 100)", OUTSIDE, x.move(0, 0, 100));
        due("7: of(0, 0)", 99, x.of(0, 0));
        due("7: of(0, 1)", 100, x.of(0, 1));
        due("7: move(0, 0, 0)", 99, x.move(0, 0, 0));
        due("7: move(0, 1, 1)", 100, x.move(0, 1, 1));
        due("7: force(0, 0)", 1, x.force(0, 0));
        due("7: force(1, 0)", 0, x.force(1, 0));
    }

    private static void of() {
        BetweenLaws x = new BetweenLaws();
        due("8: of(0, 0)", UNKNOWN, x.of(0, 0));
        Checks.law(x, 3, 77, "a:1|*:2/a?h,w,t45b?l,u0,u7,u3,u0");
        Checks.law(x, 0, 100, "*:0/t0l");
        Checks.law(x, 0, 100, "*:0/h,t7c");
        int[][] all = {{3, 77, 2, 'a', 'h', 1, 45, 'b', 'l', 137},
            {0, 100, 1, 'n', NONE, 0, 0, 'l', NONE, 0}, {0, 100, 1, 'h', NONE, 0, 7, 'c', NONE, 0}};
        for (int law = 0; law < all.length; law++) {
            for (int what = 0; what <= 9; what++) {
                due("8: of(" + law + ", " + what + ")", all[law][what], x.of(law, what));
            }
        }
        due("8: of(0, 10)", OUTSIDE, x.of(0, 10));
        due("8: of(0, -1)", OUTSIDE, x.of(0, -1));
        due("8: unknown ahead of outside", UNKNOWN, x.of(3, 10));
        due("8: of(-1, 0)", UNKNOWN, x.of(-1, 0));
    }

    private static void part() {
        BetweenLaws x = new BetweenLaws();
        due("9: part(0, 0, 0)", UNKNOWN, x.part(0, 0, 0));
        Checks.law(x, 0, 100, "ace:07|*:@7|b:99|de:@0|a:0|abcde:5");
        int[][] all = {{21, 7}, {0, 107}, {2, 99}, {24, 100}, {1, 0}, {31, 5}};
        for (int at = 0; at < all.length; at++) {
            due("9: marks of case " + at, all[at][0], x.part(0, at, 0));
            due("9: gift of case " + at, all[at][1], x.part(0, at, 1));
        }
        due("9: no such case", UNKNOWN, x.part(0, 6, 0));
        due("9: no such case", UNKNOWN, x.part(0, -1, 0));
        due("9: no such law", UNKNOWN, x.part(1, 0, 0));
        due("9: unknown ahead of outside", UNKNOWN, x.part(0, 6, 2));
        due("9: what", OUTSIDE, x.part(0, 0, 2));
        due("9: what", OUTSIDE, x.part(0, 0, -1));
    }

    private static void force() {
        BetweenLaws x = new BetweenLaws();
        due("10: no laws", 0, x.force(0, 2));
        Checks.law(x, 10, 20, "*:1");
        Checks.law(x, 19, 30, "*:2/u0");
        due("10: force(9, 0)", 0, x.force(9, 0));
        due("10: force(10, 0)", 1, x.force(10, 0));
        due("10: force(19, 0)", 3, x.force(19, 0));
        due("10: force(20, 0)", 2, x.force(20, 0));
        due("10: force(30, 0)", 0, x.force(30, 0));
        due("10: force(18, 1)", 0, x.force(18, 1));
        due("10: force(19, 1)", 1, x.force(19, 1));
        due("10: undone, not in force", 1, x.force(29, 1));
        due("10: force(30, 1)", 0, x.force(30, 1));
        due("10: force(18, 2)", 1, x.force(18, 2));
        due("10: force(19, 2)", 2, x.force(19, 2));
        int[][] outside = {{-1, 0}, {100, 0}, {0, 3}, {0, -1}};
        for (int[] call : outside) due("10: outside", OUTSIDE, x.force(call[0], call[1]));
    }

    private static void undone() {
        BetweenLaws x = new BetweenLaws();
        Checks.law(x, 0, 100, "*:1/u1");
        Checks.law(x, 5, 100, "*:2/u2");
        due("10: law 1 goes first (law 2 is not there yet), then law 0 undoes it", 2, x.force(50, 1));
        Checks.law(x, 5, 50, "*:3/u1");
        due("10: of like ones the greatest number first", 2, x.force(49, 1));
        due("10: what is undone undoes no more", 5, x.force(49, 2));
        due("10: law 2 is out of force: law 1 undoes it", 6, x.force(50, 1));
        Checks.anew(x, 0, "*:1/u0");
        due("10: a law may undo itself", 3, x.force(49, 1));
        x.move(0, 0, 20);
        Checks.anew(x, 0, "*:1/u2");
        due("10: a moved law goes by its new day, so law 2 undoes nothing", 4, x.force(20, 1));
        due("10: ahead of that as before", 2, x.force(19, 1));
        BetweenLaws y = new BetweenLaws();
        Checks.law(y, 0, 100, "*:1/u7,u3");
        due("10: only laws are told", 0, y.force(0, 1));
        Checks.law(y, 0, 100, "*:1/u0,u1");
        due("10: it undoes itself and the other one", 3, y.force(0, 1));
        due("10: none is left", 0, y.force(0, 2));
    }

    private static void open() {
        BetweenLaws x = new BetweenLaws();
        due("11: none", 0, x.open(-1));
        due("11: open(0)", NONE, x.open(0));
        Checks.law(x, 0, 100, "*:1/t5c?b");
        Checks.law(x, 0, 100, "*:1/n,w,t5c");
        Checks.law(x, 0, 100, "*:1/h?n,t5l?b");
        due("11: open(-1)", 3, x.open(-1));
        due("11: open(0)", 1, x.open(0));
        due("11: open(1)", 20, x.open(1));
        due("11: open(2)", 21, x.open(2));
        due("11: open(3)", NONE, x.open(3));
        due("11: open(-2)", NONE, x.open(-2));
        due("11: open(least)", NONE, x.open(Integer.MIN_VALUE));
        due("11: open(most)", NONE, x.open(Integer.MAX_VALUE));
        for (int law = 3; law < 8; law++) Checks.law(x, 0, 100, "*:1/a?h,t9b?c");
        due("11: more than 8", 13, x.open(-1));
        due("11: open(12)", 71, x.open(12));
        due("11: open(11)", 70, x.open(11));
        Checks.anew(x, 0, "*:1");
        due("11: a word gone", 20, x.open(0));
    }
}
