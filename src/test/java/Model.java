import java.util.ArrayList;
import java.util.HashSet;
import java.util.List;
import java.util.Set;
import java.util.regex.Matcher;
import java.util.regex.Pattern;

/**
 * The document once more, told in the slowest and plainest way, to compare BetweenLaws with: texts are
 * texts, THE FAULT is asked of a pattern, every DAY is gone through, nothing is kept that can be found anew.
 */
final class Model {
    private static final int UNKNOWN = -1, OUTSIDE = -2, STATE = -3, FULL = -4, NO = -5, NONE = -6;
    private static final String CASE = "(?:\\*|ab?c?d?e?|bc?d?e?|cd?e?|de?|e):(?:[0-9][0-9]?|@[0-7])";
    private static final String TIME = "(?:n(?:\\?[ha])?|h(?:\\?[na])?|a(?:\\?[nh])?)";
    private static final String TERM = "t[0-9][0-9]?(?:c(?:\\?[bl])?|b(?:\\?[cl])?|l(?:\\?[cb])?)";
    private static final String UNDO = "u[0-7]";
    private static final Pattern LAW = Pattern.compile(CASE + "(?:\\|" + CASE + "){0,5}(?:/(?:"
        + TIME + "(?:,w)?(?:," + TERM + ")?(?:," + UNDO + ")*|w(?:," + TERM + ")?(?:," + UNDO + ")*|"
        + TERM + "(?:," + UNDO + ")*|" + UNDO + "(?:," + UNDO + ")*))?");

    private static final class Text {
        final List<int[]> cases = new ArrayList<>();
        String time = "n";
        boolean w;
        int term = NONE;
        String way = "";
        final Set<Integer> undoings = new HashSet<>();
        int from;
        int till;

        Text(String text) {
            int slash = text.indexOf('/');
            String heads = slash < 0 ? text : text.substring(0, slash);
            for (String one : heads.split("\\|")) {
                String[] sides = one.split(":");
                int marks = 0;
                for (char letter : sides[0].toCharArray()) if (letter != '*') marks += 1 << (letter - 'a');
                boolean sends = sides[1].startsWith("@");
                cases.add(new int[] {marks, sends ? 100 + (sides[1].charAt(1) - '0') : Integer.parseInt(sides[1])});
            }
            if (slash < 0) return;
            for (String word : text.substring(slash + 1).split(",")) {
                switch (word.charAt(0)) {
                    case 'w': w = true; break;
                    case 'u': undoings.add(word.charAt(1) - '0'); break;
                    case 't':
                        String digits = word.replaceAll("[^0-9]", "");
                        term = Integer.parseInt(digits);
                        way = word.substring(1 + digits.length()).replace("?", "");
                        break;
                    default: time = word.replace("?", "");
                }
            }
        }

        Text(Text other) {
            cases.addAll(other.cases);
            time = other.time;
            w = other.w;
            term = other.term;
            way = other.way;
            undoings.addAll(other.undoings);
            from = other.from;
            till = other.till;
        }

        int[] fitting(int marks) {
            for (int[] one : cases) if ((one[0] & marks) == one[0]) return one;
            return null;
        }
    }

    private static final class Fact {
        int began;
        int ended = NONE;
        int judged = NONE;
        int marks;
        int wish = NONE;

        Fact(int began, int marks) {
            this.began = began;
            this.marks = marks;
        }

        Fact(Fact other) {
            this(other.began, other.marks);
            ended = other.ended;
            judged = other.judged;
            wish = other.wish;
        }

        int day(int day) {
            return judged != NONE && judged < day ? judged : day;
        }
    }

    private String pad = "";
    private List<Text> laws = new ArrayList<>();
    private List<Fact> facts = new ArrayList<>();
    private int[] settings = new int[3];
    private int reading = 0;
    private final List<List<Text>> keptLaws = new ArrayList<>(List.of(List.of(), List.of()));
    private final List<List<Fact>> keptFacts = new ArrayList<>(List.of(List.of(), List.of()));
    private final int[][] keptSettings = new int[2][];

    // ---- what the promises say, by their names and arguments

    int answer(String name, int a, int b, int c) {
        switch (name) {
            case "say": return say(a);
            case "wipe": int had = pad.length(); pad = ""; return had;
            case "fault": return fault();
            case "law": return law(a, b);
            case "anew": return anew(a);
            case "move": return move(a, b, c);
            case "of": return noLaw(a) ? UNKNOWN : of(laws.get(a), b);
            case "part": return part(a, b, c);
            case "force": return noDay(a) || out(b, 0, 2) ? OUTSIDE : force(a, b);
            case "open": return open(a);
            case "piece": return piece(a, b);
            case "about": return noFact(a) ? UNKNOWN : about(facts.get(a), b);
            case "change": return change(a, b, c);
            case "set": return set(a, b);
            case "meets": case "why": case "governs": case "gives": case "route": case "ways": case "read":
            case "term": return ofFact(name, a, b, c);
            case "passage": return passage(a, b, c);
            case "whole": return whole(a, b);
            case "sum": case "those": case "hangs": case "all": return ofDay(name, a, b);
            case "taken": return noLaw(a) ? UNKNOWN : taken(a);
            case "caught": return noLaw(a) ? UNKNOWN : caught(a);
            case "brief": return brief(a);
            case "wish": return wish(a, b);
            case "mend": return mend(a, b, c);
            case "image": return image(a);
            case "restore": return restore(a);
            case "told": return told(a);
            default: throw new IllegalArgumentException(name);
        }
    }

    private static boolean out(int v, int least, int most) {
        return v < least || v > most;
    }

    private static boolean noDay(int day) {
        return out(day, 0, 99);
    }

    private boolean noLaw(int law) {
        return out(law, 0, laws.size() - 1);
    }

    private boolean noFact(int fact) {
        return out(fact, 0, facts.size() - 1);
    }

    private int say(int sign) {
        if (out(sign, 33, 126)) return OUTSIDE;
        if (pad.length() == 60) return FULL;
        pad += (char) sign;
        return pad.length();
    }

    /** The first sign that no text can have behind what is ahead of it: a pattern tells whether more would help. */
    private int fault() {
        if (LAW.matcher(pad).matches()) return NONE;
        for (int n = 1; n <= pad.length(); n++) {
            Matcher matcher = LAW.matcher(pad.substring(0, n));
            if (!matcher.matches() && !matcher.hitEnd()) return n - 1;
        }
        return pad.length();
    }

    private int law(int from, int till) {
        if (noDay(from) || out(till, 1, 100) || till <= from) return OUTSIDE;
        if (fault() != NONE) return NO;
        if (laws.size() == 8) return FULL;
        Text text = new Text(pad);
        text.from = from;
        text.till = till;
        laws.add(text);
        pad = "";
        return laws.size() - 1;
    }

    private int anew(int law) {
        if (noLaw(law)) return UNKNOWN;
        if (fault() != NONE) return NO;
        Text text = new Text(pad);
        text.from = laws.get(law).from;
        text.till = laws.get(law).till;
        laws.set(law, text);
        pad = "";
        return text.cases.size();
    }

    private int move(int law, int what, int day) {
        if (noLaw(law)) return UNKNOWN;
        Text text = laws.get(law);
        if (out(what, 0, 1) || out(day, 0, what == 0 ? 99 : 100)) return OUTSIDE;
        if (what == 0 ? day >= text.till : day <= text.from) return OUTSIDE;
        int was = what == 0 ? text.from : text.till;
        if (what == 0) text.from = day;
        else text.till = day;
        return was;
    }

    private static int second(String letters) {
        return letters.length() > 1 ? letters.charAt(1) : NONE;
    }

    private static int of(Text text, int what) {
        int undoings = 0;
        for (int undoing : text.undoings) undoings += 1 << undoing;
        int[] all = {text.from, text.till, text.cases.size(), text.time.charAt(0), second(text.time), text.w ? 1 : 0,
            text.term, text.way.isEmpty() ? NONE : text.way.charAt(0), second(text.way), undoings};
        return out(what, 0, 9) ? OUTSIDE : all[what];
    }

    private int part(int law, int at, int what) {
        if (noLaw(law) || out(at, 0, laws.get(law).cases.size() - 1)) return UNKNOWN;
        return out(what, 0, 1) ? OUTSIDE : laws.get(law).cases.get(at)[what];
    }

    private boolean inForce(int law, int day) {
        return laws.get(law).from <= day && laws.get(law).till > day;
    }

    private Set<Integer> undone(int day) {
        List<Integer> order = new ArrayList<>();
        for (int law = 0; law < laws.size(); law++) if (inForce(law, day)) order.add(law);
        order.sort((one, other) -> laws.get(one).from != laws.get(other).from
            ? laws.get(other).from - laws.get(one).from : other - one);
        Set<Integer> gone = new HashSet<>();
        for (int law : order) if (!gone.contains(law)) gone.addAll(laws.get(law).undoings);
        return gone;
    }

    private int force(int day, int how) {
        Set<Integer> gone = undone(day);
        int found = 0;
        for (int law = 0; law < laws.size(); law++) {
            boolean in = inForce(law, day);
            boolean not = gone.contains(law);
            if (how == 0 ? in : how == 1 ? not : in && !not) found += 1 << law;
        }
        return found;
    }

    private List<int[]> words() {
        List<int[]> words = new ArrayList<>();
        for (int law = 0; law < laws.size(); law++) {
            if (laws.get(law).time.length() > 1) words.add(new int[] {law, 0});
            if (laws.get(law).way.length() > 1) words.add(new int[] {law, 1});
        }
        return words;
    }

    private int open(int i) {
        List<int[]> words = words();
        if (i == -1) return words.size();
        return out(i, 0, words.size() - 1) ? NONE : 10 * words.get(i)[0] + words.get(i)[1];
    }

    private char time(int law) {
        List<int[]> words = words();
        for (int i = 0; i < Math.min(8, words.size()); i++) {
            boolean it = words.get(i)[0] == law && words.get(i)[1] == 0;
            if (it && (reading & 1 << i) != 0) return laws.get(law).time.charAt(1);
        }
        return laws.get(law).time.charAt(0);
    }

    private int piece(int day, int marks) {
        if (noDay(day) || out(marks, 0, 31)) return OUTSIDE;
        if (facts.size() == 8) return FULL;
        facts.add(new Fact(day, marks));
        return facts.size() - 1;
    }

    private static int about(Fact fact, int what) {
        int[] all = {fact.began, fact.ended, fact.judged, fact.marks, fact.wish};
        return out(what, 0, 4) ? OUTSIDE : all[what];
    }

    private int change(int piece, int what, int v) {
        if (noFact(piece)) return UNKNOWN;
        Fact fact = facts.get(piece);
        if (out(what, 1, 3)) return OUTSIDE;
        if (what == 3 ? out(v, 0, 31) : v != -1 && (noDay(v) || v < fact.began)) return OUTSIDE;
        int was = about(fact, what);
        if (what == 1) fact.ended = v == -1 ? NONE : v;
        if (what == 2) fact.judged = v == -1 ? NONE : v;
        if (what == 3) fact.marks = v;
        return was;
    }

    private int set(int which, int v) {
        if (out(which, 0, 2) || out(v, 0, 1)) return OUTSIDE;
        int was = settings[which];
        settings[which] = v;
        return was;
    }

    private int ofFact(String name, int a, int b, int c) {
        boolean ofLaw = name.equals("meets") || name.equals("why");
        if (ofLaw && noLaw(a)) return UNKNOWN;
        int piece = ofLaw ? b : a;
        int day = ofLaw ? c : b;
        if (noFact(piece)) return UNKNOWN;
        if (noDay(day)) return OUTSIDE;
        Fact fact = facts.get(piece);
        switch (name) {
            case "meets": return miss(a, fact, fact.day(day)) == 0 ? 1 : 0;
            case "why": return why(a, fact, fact.day(day));
            case "governs": return governs(fact, fact.day(day));
            case "gives": return gives(fact, day);
            case "route": return route(fact, day, c);
            case "ways": return ways(fact, day);
            case "read": return out(c, 0, 255) ? OUTSIDE : read(fact, day, c);
            default: return term(fact, day, c);
        }
    }

    private int miss(int law, Fact fact, int day) {
        Text text = laws.get(law);
        if (!inForce(law, day)) return 1;
        if (undone(day).contains(law)) return 2;
        if (fact.began > day) return 3;
        if (text.fitting(fact.marks) == null) return 4;
        boolean ended = fact.ended != NONE && fact.ended < text.from;
        boolean began = fact.began >= text.from;
        char time = time(law);
        boolean so = time == 'n' ? began : time == 'h' ? began || !ended : true;
        return so && !(text.w && ended) ? 0 : 5;
    }

    private int why(int law, Fact fact, int day) {
        if (governs(fact, day) == law) return 0;
        int miss = miss(law, fact, day);
        return miss == 0 ? 6 : miss;
    }

    /** The LAWS among which ORDER chooses. */
    private List<Integer> candidates(Fact fact, int day) {
        List<Integer> found = new ArrayList<>();
        for (int law = 0; law < laws.size(); law++) if (miss(law, fact, day) == 0) found.add(law);
        if (!found.isEmpty() || settings[1] == 0 || fact.began > day) return found;
        for (int law = 0; law < laws.size(); law++) {
            boolean then = inForce(law, fact.began) && !undone(day).contains(law);
            if (then && laws.get(law).fitting(fact.marks) != null) found.add(law);
        }
        return found;
    }

    private List<Integer> best(Fact fact, int day) {
        List<Integer> found = candidates(fact, day);
        List<Integer> best = new ArrayList<>();
        int most = -1;
        for (int law : found) {
            int first = laws.get(law).from;
            int marks = Integer.bitCount(laws.get(law).fitting(fact.marks)[0]);
            int worth = settings[0] == 0 ? 1000 * first + marks : 1000 * marks + first;
            if (worth > most) best.clear();
            if (worth >= most) best.add(law);
            most = Math.max(most, worth);
        }
        return best;
    }

    private int governs(Fact fact, int day) {
        List<Integer> best = best(fact, day);
        return best.isEmpty() ? NONE : best.get(0);
    }

    /** The LAWS come to, and behind them what that leads to. */
    private List<Integer> path(Fact fact, int day) {
        List<Integer> path = new ArrayList<>();
        int law = governs(fact, day);
        while (true) {
            if (noLaw(law) || undone(day).contains(law) || laws.get(law).fitting(fact.marks) == null) {
                path.add(NONE);
                return path;
            }
            if (path.contains(law)) {
                path.add(STATE);
                return path;
            }
            path.add(law);
            int gift = laws.get(law).fitting(fact.marks)[1];
            if (gift < 100) {
                path.add(gift);
                return path;
            }
            law = gift - 100;
        }
    }

    private int plain(Fact fact, int day) {
        List<Integer> path = path(fact, day);
        return path.get(path.size() - 1);
    }

    private int gives(Fact fact, int asked) {
        int day = fact.day(asked);
        int gives = plain(fact, day);
        int law = governs(fact, day);
        if (settings[2] == 0 || law == NONE || laws.get(law).from <= fact.began || gives < 0) return gives;
        int first = plain(fact, fact.began);
        return first >= 0 && first < gives ? first : gives;
    }

    private int route(Fact fact, int day, int i) {
        List<Integer> path = path(fact, fact.day(day));
        if (i == -1) return path.size() - 1;
        return out(i, 0, path.size() - 2) ? NONE : path.get(i);
    }

    private int read(Fact fact, int day, int by) {
        reading = by;
        int gives = gives(fact, day);
        reading = 0;
        return gives;
    }

    private int ways(Fact fact, int day) {
        Set<Integer> answers = new HashSet<>();
        for (int by = 0; by < 1 << Math.min(8, words().size()); by++) answers.add(read(fact, day, by));
        return answers.size();
    }

    private List<int[]> passages(Fact fact) {
        List<int[]> found = new ArrayList<>();
        for (int day = fact.began; day <= 99; day++) {
            int law = governs(fact, day);
            if (day == fact.began || law != governs(fact, day - 1)) found.add(new int[] {day, law});
        }
        return found;
    }

    private int passage(int piece, int i, int what) {
        if (noFact(piece)) return UNKNOWN;
        if (out(what, 0, 1)) return OUTSIDE;
        List<int[]> found = passages(facts.get(piece));
        if (i == -1) return found.size();
        return out(i, 0, found.size() - 1) ? NONE : found.get(i)[what];
    }

    /** START and END on a DAY, by the LAWS' own WAYS or by one for all. */
    private int[] carried(Fact fact, int day, char by) {
        int start = fact.began;
        int end = NONE;
        for (int[] passage : passages(fact)) {
            if (passage[0] > day) break;
            if (passage[1] == NONE || laws.get(passage[1]).term == NONE) {
                end = NONE;
                continue;
            }
            Text text = laws.get(passage[1]);
            char way = by == ' ' ? text.way.charAt(0) : by;
            if (end != NONE && way == 'b') start = passage[0];
            if (end != NONE && way == 'l') end = Math.min(end, passage[0] + text.term);
            else end = start + text.term;
        }
        return new int[] {start, end};
    }

    private int term(Fact fact, int day, int what) {
        if (out(what, 0, 1)) return OUTSIDE;
        return day < fact.began ? STATE : carried(fact, day, ' ')[what];
    }

    private int whole(int piece, int way) {
        if (noFact(piece)) return UNKNOWN;
        if (out(way, 0, 3)) return OUTSIDE;
        Fact fact = facts.get(piece);
        for (int day = fact.began; day <= 99; day++) {
            int end = carried(fact, day, " cbl".charAt(way))[1];
            if (end != NONE && day >= end) return day;
        }
        return NONE;
    }

    private int ofDay(String name, int day, int what) {
        if (noDay(day)) return OUTSIDE;
        if (name.equals("sum")) {
            int sum = 0;
            for (Fact fact : facts) sum += Math.max(0, gives(fact, day));
            return sum;
        }
        if (name.equals("those")) return out(what, 0, 3) ? OUTSIDE : those(day, what);
        if (out(what, 0, 1)) return OUTSIDE;
        return name.equals("hangs") ? hangs(day)[what] : all(day, what);
    }

    private int those(int asked, int how) {
        int found = 0;
        for (int piece = 0; piece < facts.size(); piece++) {
            Fact fact = facts.get(piece);
            int day = fact.day(asked);
            boolean begun = fact.began <= asked;
            boolean it = begun;
            if (how == 0) it = best(fact, day).size() > 1;
            if (how == 1) it = begun && governs(fact, day) == NONE;
            if (how == 2) it = plain(fact, day) == STATE;
            if (it) found += 1 << piece;
        }
        return found;
    }

    private int[] hangs(int day) {
        int[] found = {NONE, 0};
        for (int i = 0; i < Math.min(8, words().size()); i++) {
            int hanging = 0;
            for (Fact fact : facts) if (read(fact, day, 1 << i) != gives(fact, day)) hanging++;
            if (i == 0 || hanging > found[1]) found = new int[] {i, hanging};
        }
        return found;
    }

    private int all(int day, int what) {
        Set<Integer> answers = new HashSet<>();
        int first = NONE;
        for (int began = 0; began <= day; began++) {
            for (int marks = 0; marks < 32; marks++) {
                Fact fact = new Fact(began, marks);
                if (what == 0) answers.add(gives(fact, day));
                else if (governs(fact, day) == NONE) return 100 * began + marks;
            }
        }
        return what == 0 ? answers.size() : first;
    }

    private int taken(int law) {
        int found = 0;
        int first = laws.get(law).from;
        for (int piece = 0; piece < facts.size(); piece++) {
            Fact fact = facts.get(piece);
            boolean ended = fact.ended != NONE && fact.ended < first;
            if (ended && governs(fact, fact.day(first)) == law) found += 1 << piece;
        }
        return found;
    }

    private int caught(int law) {
        int found = 0;
        for (int piece = 0; piece < facts.size(); piece++) {
            Fact fact = facts.get(piece);
            boolean it = false;
            for (int day = 0; day <= 99; day++) it |= governs(fact, fact.day(day)) == law;
            if (it) found += 1 << piece;
        }
        return found;
    }

    private int brief(int what) {
        if (out(what, 0, 1)) return OUTSIDE;
        if (laws.isEmpty()) return STATE;
        int law = 0;
        int days = 1000;
        for (int l = laws.size() - 1; l >= 0; l--) {
            int its = laws.get(l).till - laws.get(l).from;
            if (its > days) continue;
            law = l;
            days = its;
        }
        return what == 0 ? law : days;
    }

    private int wish(int piece, int v) {
        if (noFact(piece)) return UNKNOWN;
        if (out(v, -1, 99)) return OUTSIDE;
        int was = facts.get(piece).wish;
        facts.get(piece).wish = v == -1 ? NONE : v;
        return was;
    }

    /** All other words are listed with what they cost; of those by which all comes out the first of the cheapest. */
    private int mend(int law, int day, int what) {
        if (noLaw(law)) return UNKNOWN;
        if (noDay(day) || out(what, 0, 3)) return OUTSIDE;
        List<Integer> now = new ArrayList<>();
        for (Fact fact : facts) now.add(fact.wish == NONE ? gives(fact, day) : fact.wish);
        Text has = laws.get(law);
        int[] found = null;
        for (int cost = 0; cost <= 3 && found == null; cost++) {
            for (int t = 0; t < 3 && found == null; t++) {
                for (int w = 0; w < 2 && found == null; w++) {
                    for (int u = -1; u < 8 && found == null; u++) {
                        Text other = new Text(has);
                        other.time = "nha".substring(t, t + 1);
                        other.w = w == 1;
                        int costs = (other.time.equals(has.time) ? 0 : 1) + (other.w == has.w ? 0 : 1) + (u < 0 ? 0 : 1);
                        if (costs != cost) continue;
                        if (u >= 0) other.undoings.add(u);
                        laws.set(law, other);
                        boolean comesOut = true;
                        for (int p = 0; p < facts.size(); p++) comesOut &= gives(facts.get(p), day) == now.get(p);
                        if (comesOut) found = new int[] {cost, other.time.charAt(0), w, u < 0 ? NONE : u};
                    }
                }
            }
        }
        laws.set(law, has);
        return found == null ? NO : found[what];
    }

    private static List<Text> copyLaws(List<Text> laws) {
        List<Text> copy = new ArrayList<>();
        for (Text law : laws) copy.add(new Text(law));
        return copy;
    }

    private static List<Fact> copyFacts(List<Fact> facts) {
        List<Fact> copy = new ArrayList<>();
        for (Fact fact : facts) copy.add(new Fact(fact));
        return copy;
    }

    private int image(int n) {
        if (out(n, 0, 1)) return OUTSIDE;
        keptLaws.set(n, copyLaws(laws));
        keptFacts.set(n, copyFacts(facts));
        keptSettings[n] = settings.clone();
        return 1;
    }

    private int restore(int n) {
        if (out(n, 0, 1)) return OUTSIDE;
        if (keptSettings[n] == null) return STATE;
        laws = copyLaws(keptLaws.get(n));
        facts = copyFacts(keptFacts.get(n));
        settings = keptSettings[n].clone();
        return 1;
    }

    private int told(int what) {
        int[] all = {laws.size(), facts.size(), pad.length(), settings[0], settings[1], settings[2]};
        return out(what, 0, 5) ? OUTSIDE : all[what];
    }
}
