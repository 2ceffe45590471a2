/**
 * Promises 1 to 11, sentence by sentence: each one of the document that names a bound, a least or a greatest, a
 * first or a last day, something empty or full, has its own function here, ahead of which it stands. What is
 * refused for its arguments alone is in RefusalsTest.
 */
public final class LawEdgesTest {
    private static final int FULL = Checks.FULL, NO = Checks.NO, NONE = Checks.NONE;
    private static final int ALL = 31;

    public static void main(String[] args) {
        signsThatCanStand();
        moreMustCome();
        oneToSixCases();
        oneOrTwoDigits();
        eachSetOfMarks();
        twoUnlikeLetters();
        wordsInOrder();
        withoutWords();
        sixtySigns();
        eightLaws();
        forceFromTill();
        firstEightOpenWords();
        latestFirstUndoes();
        notUndoneByThen();
        Checks.close("LawEdgesTest");
    }

    private static void due(String call, long want, long got) {
        Checks.due(call, want, got);
    }

    private static int fault(String text) {
        BetweenLaws x = new BetweenLaws();
        Checks.say(x, text);
        return x.fault();
    }

    // ---- 1 laws

    /** The place of the first sign that can not stand there: behind each head all 94 signs, of which some can. */
    private static void signsThatCanStand() {
        String digits = "0123456789";
        String[][] heads = {{"", "*abcde"}, {"*", ":"}, {"a", "bcde:"}, {"c", "de:"}, {"ad", "e:"}, {"e", ":"}, {"abcde", ":"},
            {"*:", "@" + digits}, {"a:@", "01234567"}, {"a:@7", "|/"}, {"a:0", digits + "|/"}, {"a:99", "|/"},
            {"*:1|", "*abcde"}, {"*:1|b", "cde:"}, {"*:1|*:2|*:3|*:4|*:5|*:6", digits + "/"},
            {"*:1|*:2|*:3|*:4|*:5|*:60", "/"}, {"*:1|*:2|*:3|*:4|*:5|*:@6", "/"}, {"*:1|*:2|*:3|*:4|*:5", digits + "|/"},
            {"*:1/", "nhawtu"}, {"*:1/n", "?,"}, {"*:1/h", "?,"}, {"*:1/a", "?,"}, {"*:1/n?", "ha"}, {"*:1/h?", "na"},
            {"*:1/a?", "nh"}, {"*:1/n?h", ","}, {"*:1/n,", "wtu"}, {"*:1/n?a,", "wtu"}, {"*:1/w", ","}, {"*:1/w,", "tu"},
            {"*:1/n,w,", "tu"}, {"*:1/t", digits}, {"*:1/t0", digits + "cbl"}, {"*:1/t00", "cbl"}, {"*:1/t99", "cbl"},
            {"*:1/t9c", "?,"}, {"*:1/t9b", "?,"}, {"*:1/t9l", "?,"}, {"*:1/t9c?", "bl"}, {"*:1/t9b?", "cl"},
            {"*:1/t9l?", "cb"}, {"*:1/t9l?c", ","}, {"*:1/t9c,", "u"}, {"*:1/n,w,t9c?b,", "u"}, {"*:1/u", "01234567"},
            {"*:1/u0", ","}, {"*:1/u7,", "u"}, {"*:1/u0,u0", ","}, {"*:1/u0,u1,", "u"}};
        for (String[] head : heads) {
            int place = head[0].length();
            for (char sign = 33; sign <= 126; sign++) {
                int fault = fault(head[0] + sign);
                boolean stands = fault == NONE || fault == place + 1;
                boolean can = head[1].indexOf(sign) >= 0;
                due("4: behind " + head[0] + " can stand " + sign, can ? 1 : 0, stands ? 1 : 0);
                if (!can) due("4: behind " + head[0] + " stands " + sign, place, fault);
                if (!can) due("4: more behind it", place, fault(head[0] + sign + ":1"));
            }
        }
    }

    /** The number of signs, if more must come; of what is empty 0. */
    private static void moreMustCome() {
        String text = "abe:10|*:@7|c:3/h?a,w,t45c?l,u0,u7";
        String stands = "abe:1 abe:10 abe:10|*:@7 abe:10|*:@7|c:3 abe:10|*:@7|c:3/h abe:10|*:@7|c:3/h?a "
            + "abe:10|*:@7|c:3/h?a,w abe:10|*:@7|c:3/h?a,w,t45c abe:10|*:@7|c:3/h?a,w,t45c?l "
            + "abe:10|*:@7|c:3/h?a,w,t45c?l,u0 " + text;
        for (int n = 0; n <= text.length(); n++) {
            String head = text.substring(0, n);
            boolean whole = n > 0 && (" " + stands + " ").contains(" " + head + " ");
            due("4: fault() of " + head, whole ? NONE : n, fault(head));
        }
    }

    /** CASES: 1 to 6. */
    private static void oneToSixCases() {
        StringBuilder text = new StringBuilder("a:1");
        for (int cases = 1; cases <= 6; cases++) {
            BetweenLaws x = new BetweenLaws();
            due("5: law with " + cases + " cases", 0, Checks.law(x, 0, 100, text.toString()));
            due("8: cases", cases, x.of(0, 2));
            due("9: the last one", cases == 1 ? 1 : 10 + cases, x.part(0, cases - 1, 1));
            due("9: there is none behind it", Checks.UNKNOWN, x.part(0, cases, 1));
            due("6: anew", cases, Checks.anew(x, 0, text.toString()));
            text.append("|b:1").append(cases + 1);
        }
        BetweenLaws x = new BetweenLaws();
        Checks.say(x, text.toString());
        due("5: a seventh case", NO, x.law(0, 100));
        due("5: nothing is made", 0, x.told(0));
    }

    /** GIFT: 1 or 2 digits, or @ and a digit 0 to 7; TERM: 1 or 2 digits. */
    private static void oneOrTwoDigits() {
        BetweenLaws x = new BetweenLaws();
        Checks.law(x, 0, 100, "*:0");
        String[] gifts = {"0", "9", "00", "09", "10", "99", "@0", "@7"};
        int[] gift = {0, 9, 0, 9, 10, 99, 100, 107};
        for (int n = 0; n < gifts.length; n++) {
            due("6: gift " + gifts[n], 1, Checks.anew(x, 0, "*:" + gifts[n]));
            due("9: gift " + gifts[n], gift[n], x.part(0, 0, 1));
        }
        for (int n = 0; n < 6; n++) {
            due("6: term " + gifts[n], 1, Checks.anew(x, 0, "*:1/t" + gifts[n] + "b"));
            due("8: term " + gifts[n], gift[n], x.of(0, 6));
        }
        String[] faulty = {"*:100", "*:000", "*:@8", "*:@", "*:@00", "*:1/t100c", "*:1/tc"};
        for (String text : faulty) due("6: " + text, NO, Checks.anew(x, 0, text));
        due("8: the last one that stood", 99, x.of(0, 6));
    }

    /** MARKS: *, or letters a to e, rising: each of the 32 sets. */
    private static void eachSetOfMarks() {
        BetweenLaws x = new BetweenLaws();
        Checks.law(x, 0, 100, "*:0");
        x.piece(0, 0);
        for (int marks = 0; marks <= ALL; marks++) {
            due("6: anew", 1, Checks.anew(x, 0, letters(marks) + ":5"));
            due("9: marks " + marks, marks, x.part(0, 0, 0));
            x.change(0, 3, marks);
            due("16: they fit themselves", 1, x.meets(0, 0, 0));
            x.change(0, 3, ALL);
            due("16: they fit all marks", 1, x.meets(0, 0, 0));
            x.change(0, 3, ALL & ~(marks & -marks));
            due("16: not without the first of them", marks == 0 ? 1 : 0, x.meets(0, 0, 0));
        }
    }

    private static String letters(int marks) {
        StringBuilder text = new StringBuilder();
        for (int m = 0; m < 5; m++) if ((marks >> m & 1) != 0) text.append((char) ('a' + m));
        return marks == 0 ? "*" : text.toString();
    }

    /** TIME and WAY may be OPEN: two unlike letters of these with a ? between. */
    private static void twoUnlikeLetters() {
        String[] letters = {"nha", "cbl"};
        for (int word = 0; word < 2; word++) {
            String head = word == 0 ? "*:1/" : "*:1/t5";
            for (char one : letters[word].toCharArray()) {
                for (char other : letters[word].toCharArray()) {
                    String text = head + one + "?" + other;
                    due("4: fault() of " + text, one == other ? text.length() - 1 : NONE, fault(text));
                    if (one != other) open(text, word, one, other);
                }
            }
        }
    }

    private static void open(String text, int word, char one, char other) {
        BetweenLaws x = new BetweenLaws();
        Checks.law(x, 0, 100, text);
        due("8: first letter", one, x.of(0, word == 0 ? 3 : 7));
        due("8: second letter", other, x.of(0, word == 0 ? 4 : 8));
        due("8: that of the other word", NONE, x.of(0, word == 0 ? 8 : 4));
        due("11: how many", 1, x.open(-1));
        due("11: which", word, x.open(0));
        due("11: none behind the last", NONE, x.open(1));
    }

    /** WORDS (one at least), each at most once, in this order; then UNDOINGS, any number. */
    private static void wordsInOrder() {
        String[] words = {"h", "w", "t7b", "u3"};
        for (int one = 0; one < 4; one++) {
            due("4: one word", NONE, fault("*:1/" + words[one]));
            due("4: a comma behind it", 5 + words[one].length(), fault("*:1/" + words[one] + ","));
            due("4: a comma ahead of it", 4, fault("*:1/," + words[one]));
            for (int other = 0; other < 4; other++) {
                boolean stands = one < other || one == 3 && other == 3;
                String text = "*:1/" + words[one] + "," + words[other];
                due("4: fault() of " + text, stands ? NONE : 5 + words[one].length(), fault(text));
            }
        }
        for (int set = 1; set < 16; set++) {
            StringBuilder text = new StringBuilder("*:1/");
            for (int n = 0; n < 4; n++) if ((set >> n & 1) != 0) text.append(words[n]).append(',');
            text.setLength(text.length() - 1);
            due("4: fault() of " + text, NONE, fault(text.toString()));
        }
        due("4: no word", 4, fault("*:1/"));
    }

    /** Without a word of TIME it is n; without TERM it has none. */
    private static void withoutWords() {
        String[] texts = {"*:1", "*:1/w", "*:1/u0", "*:1/t5c", "*:1/h"};
        int[][] due = {{'n', 0, NONE, NONE, 0}, {'n', 1, NONE, NONE, 0}, {'n', 0, NONE, NONE, 1}, {'n', 0, 5, 'c', 0},
            {'h', 0, NONE, NONE, 0}};
        int[] what = {3, 5, 6, 7, 9};
        BetweenLaws x = new BetweenLaws();
        Checks.law(x, 0, 100, "*:1/a?h,w,t9b?l,u7");
        for (int n = 0; n < texts.length; n++) {
            due("6: anew", 1, Checks.anew(x, 0, texts[n]));
            for (int w = 0; w < what.length; w++) {
                due("8: of(0, " + what[w] + ") of " + texts[n], due[n][w], x.of(0, what[w]));
            }
            due("8: no second letter of time", NONE, x.of(0, 4));
            due("8: no second letter of way", NONE, x.of(0, 8));
            due("11: no open word", 0, x.open(-1));
        }
    }

    /** A PAD of SIGNS, 60 at most. */
    private static void sixtySigns() {
        StringBuilder text = new StringBuilder("ab:12/w,t10c");
        for (int n = 0; n < 16; n++) text.append(",u").append(n % 8);
        BetweenLaws x = new BetweenLaws();
        Checks.say(x, text.toString());
        due("2: the 61st", FULL, x.say('x'));
        due("37: told(2)", 60, x.told(2));
        due("4: all 60 stand", NONE, x.fault());
        due("5: all 60 become a law", 0, x.law(0, 100));
        due("8: the last word, too", 255, x.of(0, 9));
        due("2: it is empty then", 1, x.say('x'));
        Checks.say(x, text.toString());
        due("6: anew, too", 1, x.anew(0));
        due("3: it is empty then", 0, x.wipe());
        Checks.say(x, text.toString());
        due("3: all 60 are wiped", 60, x.wipe());
        due("3: none is left", 0, x.wipe());
        Checks.say(x, text.substring(0, 57) + ",u8");
        due("4: the last place", 59, x.fault());
        Checks.say(x, text.substring(0, 57) + ",uu");
        due("5: the last place", NO, x.law(0, 100));
        due("5: the pad stays", 60, x.told(2));
    }

    /** LAWS, 8 at most, numbered from 0 on. */
    private static void eightLaws() {
        BetweenLaws x = new BetweenLaws();
        for (int law = 0; law < 8; law++) {
            due("7: it is not there yet", Checks.UNKNOWN, x.move(law, 0, 50));
            due("5: law", law, Checks.law(x, law, 100 - law, "*:" + law));
            due("37: how many", law + 1, x.told(0));
        }
        Checks.say(x, "*:9");
        due("5: the ninth", FULL, x.law(0, 100));
        due("5: it is said still", 3, x.told(2));
        due("37: how many", 8, x.told(0));
        for (int law = 0; law < 8; law++) {
            due("8: first day", law, x.of(law, 0));
            due("8: till", 100 - law, x.of(law, 1));
            due("9: gift", law, x.part(law, 0, 1));
        }
        due("6: anew is not full", 1, x.anew(7));
        due("9: the last law's gift", 9, x.part(7, 0, 1));
        due("8: its force stays", 93, x.of(7, 1));
        due("10: all", 255, x.force(7, 0));
    }

    /** In FORCE from a DAY till another one (not counted; 100 at most). */
    private static void forceFromTill() {
        int[] days = {0, 1, 2, 49, 50, 51, 98, 99, 100};
        for (int from : days) {
            for (int till : days) {
                BetweenLaws x = new BetweenLaws();
                Checks.say(x, "*:1");
                due("5: law(" + from + ", " + till + ")", till > from && from < 100 ? 0 : Checks.OUTSIDE, x.law(from, till));
                if (till <= from) continue;
                for (int day = 0; day < 100; day++) {
                    due("10: day " + day, from <= day && day < till ? 1 : 0, x.force(day, 0));
                }
            }
        }
        BetweenLaws x = new BetweenLaws();
        Checks.law(x, 40, 60, "*:1");
        for (int day = -1; day <= 101; day++) {
            if (day >= 60 || day < 0) due("7: first day " + day, Checks.OUTSIDE, x.move(0, 0, day));
            if (day <= 40 || day > 100) due("7: till " + day, Checks.OUTSIDE, x.move(0, 1, day));
        }
        due("7: the latest first day", 40, x.move(0, 0, 59));
        due("7: the earliest", 59, x.move(0, 0, 0));
        due("7: the earliest till", 60, x.move(0, 1, 1));
        due("7: the latest", 1, x.move(0, 1, 100));
        due("7: it may stay", 100, x.move(0, 1, 100));
        due("7: it may stay", 0, x.move(0, 0, 0));
    }

    /** A set of bits tells which of the first 8 OPEN words are read by their second letter; all others by their first. */
    private static void firstEightOpenWords() {
        BetweenLaws x = new BetweenLaws();
        for (int law = 0; law < 8; law++) Checks.law(x, 50 + law, 51 + law, "*:" + (10 + law) + "/n?a,t1c?b");
        for (int law = 7; law >= 0; law--) Checks.anew(x, law, "*:" + (10 + law) + (law == 3 ? "/n?a,t1c?b" : "/n?a"));
        due("11: nine words", 9, x.open(-1));
        int[] words = {0, 10, 20, 30, 31, 40, 50, 60, 70, NONE};
        for (int i = 0; i < words.length; i++) due("11: word " + i, words[i], x.open(i));
        x.piece(5, 0);
        for (int i = 0; i < 9; i++) {
            int law = words[i] / 10;
            if (i == 4) {
                due("29: the bit is the way's", NONE, x.read(0, 53, 1 << i));
                continue;
            }
            due("29: by the first letter", NONE, x.read(0, 50 + law, i < 8 ? 255 - (1 << i) : 255));
            if (i < 8) due("29: word " + i, 10 + law, x.read(0, 50 + law, 1 << i));
        }
        due("30: of the eighth", 2, x.ways(0, 56));
        due("30: of the ninth", 1, x.ways(0, 57));
        due("31: on the eighth", 7, x.hangs(56, 0));
        due("31: on the ninth none does", 0, x.hangs(57, 1));
    }

    /** From the latest first DAY on (of like ones the greatest number first). */
    private static void latestFirstUndoes() {
        BetweenLaws x = new BetweenLaws();
        Checks.law(x, 10, 20, "*:1/u1");
        Checks.law(x, 10, 20, "*:2/u0");
        due("10: of like ones the greatest number", 1, x.force(10, 1));
        x.move(0, 0, 11);
        due("10: the latest first day", 2, x.force(11, 1));
        due("10: ahead of that the other one alone", 1, x.force(10, 1));
        x.move(1, 0, 12);
        due("10: the latest again", 1, x.force(12, 1));
        due("10: ahead of that the other one alone", 2, x.force(11, 1));
        x.move(0, 0, 12);
        due("10: alike again", 1, x.force(12, 1));
        due("10: the last day", 1, x.force(19, 1));
        due("10: none is in force", 0, x.force(20, 1));
        due("10: none is in force yet", 0, x.force(9, 1));
    }

    /** Each one that is not UNDONE itself by then makes all UNDONE that it names; in FORCE or not. */
    private static void notUndoneByThen() {
        BetweenLaws x = new BetweenLaws();
        Checks.law(x, 0, 100, "*:1/u0,u1,u2,u7");
        due("10: itself alone is there", 1, x.force(0, 1));
        for (int law = 1; law < 7; law++) Checks.law(x, 99, 100, "*:2");
        due("10: named ahead of being there, not in force", 7, x.force(0, 1));
        due("10: law 7 is not there", 7, x.force(99, 1));
        Checks.law(x, 98, 99, "*:3");
        due("10: it is there", 135, x.force(0, 1));
        due("10: not undone", 120, x.force(99, 2));
        Checks.anew(x, 3, "*:2/u0");
        due("10: undone by then, so that it undoes nothing", 1, x.force(99, 1));
        due("10: but where that one is not in force", 135, x.force(98, 1));
        Checks.anew(x, 4, "*:2/u3");
        due("10: what would have undone it is undone", 143, x.force(99, 1));
    }
}
