import java.util.Arrays;

/**
 * Each call with each kind of argument too small, least, most and too large, on objects from empty to full:
 * what is refused answers the first of UNKNOWN, OUTSIDE, STATE, NO, FULL that fits, and changes nothing; what
 * only asks changes nothing, either. Each call is made on an object of its own.
 */
public final class RefusalsTest {
    private static final int UNKNOWN = Checks.UNKNOWN, OUTSIDE = Checks.OUTSIDE, STATE = Checks.STATE;
    private static final int FULL = Checks.FULL, NO = Checks.NO;

    /** Names, and a letter for each argument: which numbers it may be, as range(..) tells. */
    private static final String[] CALLS = {"say S", "wipe", "fault", "law DT", "anew L", "move L1T", "of L9", "part LC1",
        "force D2", "open X", "piece DM", "about P4", "change PHX", "set 21", "meets LPD", "why LPD", "governs PD",
        "those D3", "gives PD", "route PDX", "sum D", "passage PX1", "term PD1", "whole P3", "taken L", "brief 1",
        "caught L", "read PDR", "ways PD", "hangs D1", "wish PV", "mend LD3", "all D1", "image 1", "restore 1", "told 5"};
    private static final String CHANGES = " say wipe law anew move piece change set wish image restore ";

    /** LAWS and PIECES that there are, and what the PAD holds. */
    private static final String[] PADS = {"", "a:1", "*:1/", sixty("ab:12/w,t10c", ",u0"), sixty("a:1/", "x")};
    private static final int[][] STATES = {{0, 0, 0}, {1, 1, 1}, {3, 2, 2}, {8, 8, 3}, {8, 8, 4}, {7, 7, 1}, {0, 1, 4}};

    public static void main(String[] args) {
        for (int[] state : STATES) {
            Refused refused = new Refused(state);
            for (String call : CALLS) refused.askAll(call);
        }
        Checks.close("RefusalsTest");
    }

    private static String sixty(String head, String more) {
        StringBuilder text = new StringBuilder(head);
        while (text.length() < 60) text.append(more);
        return text.toString();
    }

    /** The least and most that an argument of this kind may be; null: it may be all. */
    private static int[] range(char kind, int laws, int pieces) {
        switch (kind) {
            case 'L': return new int[] {0, laws - 1};
            case 'P': return new int[] {0, pieces - 1};
            case 'C': return new int[] {0, 1};
            case 'S': return new int[] {33, 126};
            case 'D': return new int[] {0, 99};
            case 'T': return new int[] {0, 100};
            case 'M': return new int[] {0, 31};
            case 'R': return new int[] {0, 255};
            case 'V': return new int[] {-1, 99};
            case 'H': return new int[] {1, 3};
            case 'X': return null;
            default: return new int[] {0, kind - '0'};
        }
    }

    private static final class Refused {
        private final int laws;
        private final int pieces;
        private final int pad;
        private final String before;

        Refused(int[] state) {
            laws = state[0];
            pieces = state[1];
            pad = state[2];
            before = told(made());
        }

        /** LAW n is in FORCE from 10 + n till 60 + n, PIECE n begins on 20 + n; the first IMAGE is kept. */
        private BetweenLaws made() {
            BetweenLaws x = new BetweenLaws();
            for (int n = 0; n < laws; n++) Checks.law(x, 10 + n, 60 + n, "b:@" + n + "|a:" + n + "/h?a,t9c");
            for (int n = 0; n < pieces; n++) {
                x.piece(20 + n, 1 + n);
                x.change(n, 1, 40 + n);
                x.wish(n, n);
            }
            if (pieces > 0) x.change(0, 2, 50);
            if (laws > 0) x.image(0);
            x.set(0, 1);
            x.set(2, 1);
            Checks.say(x, PADS[pad]);
            return x;
        }

        private String told(BetweenLaws x) {
            StringBuilder all = new StringBuilder();
            for (int what = 0; what <= 5; what++) all.append(x.told(what)).append(' ');
            all.append(x.fault());
            for (int law = 0; law < laws; law++) {
                for (int what = 0; what <= 9; what++) all.append(' ').append(x.of(law, what));
                for (int at = 0; at < 2; at++) all.append(' ').append(x.part(law, at, 0)).append(' ').append(x.part(law, at, 1));
            }
            for (int piece = 0; piece < pieces; piece++) {
                for (int what = 0; what <= 4; what++) all.append(' ').append(x.about(piece, what));
            }
            for (int day = 30; day <= 70; day += 20) all.append(' ').append(x.sum(day)).append(' ').append(x.force(day, 2));
            all.append(" images ").append(x.restore(1)).append(' ').append(x.restore(0));
            for (int what = 0; what <= 5; what++) all.append(' ').append(x.told(what));
            return all.toString();
        }

        void askAll(String call) {
            String name = call.split(" ")[0];
            String kinds = call.contains(" ") ? call.split(" ")[1] : "";
            int[][] probes = new int[3][];
            for (int n = 0; n < 3; n++) probes[n] = n < kinds.length() ? probes(kinds.charAt(n)) : new int[] {0};
            for (int a : probes[0]) {
                for (int b : probes[1]) {
                    for (int c : probes[2]) ask(name, kinds, new int[] {a, b, c});
                }
            }
        }

        private int[] probes(char kind) {
            int[] range = range(kind, laws, pieces);
            if (range == null) range = new int[] {-1, 31};
            int least = range[0];
            int most = range[1];
            return Arrays.stream(new int[] {Integer.MIN_VALUE, least - 1, least, least + 1, 15, 20, most, most + 1,
                Integer.MAX_VALUE}).distinct().toArray();
        }

        private void ask(String name, String kinds, int[] a) {
            String call = name + Arrays.toString(a) + " with " + laws + " laws, " + pieces + " pieces, pad " + pad;
            int due = refusal(name, kinds, a);
            BetweenLaws x = made();
            int got = Calls.answer(x, name, a[0], a[1], a[2]);
            if (due != 0) Checks.due(call, due, got);
            else if (isRefusal(name, got)) Checks.due(call + " is refused", 0, got);
            if (due == 0 && CHANGES.contains(" " + name + " ")) return;
            Checks.due(call + " changes something", 1, told(x).equals(before) ? 1 : 0);
        }

        /** Whether an answer is one of a refusal; STATE is a RING of gives and read, NO may be mend's. */
        private boolean isRefusal(String name, int answer) {
            if (answer == STATE) return !name.equals("gives") && !name.equals("read");
            if (answer == NO) return !name.equals("mend");
            return answer == UNKNOWN || answer == OUTSIDE || answer == FULL;
        }

        private int refusal(String name, String kinds, int[] a) {
            boolean outside = false;
            for (int n = 0; n < kinds.length(); n++) {
                int[] range = range(kinds.charAt(n), laws, pieces);
                boolean out = range != null && (a[n] < range[0] || a[n] > range[1]);
                if (out && "LPC".indexOf(kinds.charAt(n)) >= 0) return UNKNOWN;
                outside |= out;
            }
            return outside || outsideOther(name, a) ? OUTSIDE : stateOf(name, a);
        }

        /** What is outside by another number: a DAY by the other one, a value by what it is of. */
        private boolean outsideOther(String name, int[] a) {
            switch (name) {
                case "law": return a[1] <= a[0];
                case "move": return a[1] == 0 ? a[2] >= 60 + a[0] : a[2] <= 10 + a[0];
                case "change": return a[1] == 3 ? a[2] < 0 || a[2] > 31 : a[2] != -1 && (a[2] < 20 + a[0] || a[2] > 99);
                default: return false;
            }
        }

        private int stateOf(String name, int[] a) {
            boolean faulty = pad != 1 && pad != 3;
            switch (name) {
                case "say": return pad >= 3 ? FULL : 0;
                case "law": return faulty ? NO : laws == 8 ? FULL : 0;
                case "anew": return faulty ? NO : 0;
                case "piece": return pieces == 8 ? FULL : 0;
                case "term": return a[1] < 20 + a[0] ? STATE : 0;
                case "brief": return laws == 0 ? STATE : 0;
                case "restore": return a[0] == 1 || laws == 0 ? STATE : 0;
                default: return 0;
            }
        }
    }
}
