// Laws in force from a day till another one, and the pieces of facts that come between two of them.
public final class BetweenLaws {
    public static final int UNKNOWN = -1, OUTSIDE = -2, STATE = -3, FULL = -4, NO = -5, NONE = -6;

    // The document's limits.
    private static final int DAYS = 100;
    private static final int MOST_LAWS = 8;
    private static final int MOST_PIECES = 8;
    private static final int MOST_CASES = 6;
    private static final int MOST_SIGNS = 60;
    private static final int MOST_READ = 8;
    private static final int MARK_SETS = 32;
    private static final int IMAGES = 2;

    // A GIFT from here on SENDS to the LAW that is so much above it.
    private static final int SENDS = 100;

    // What a LAW's MEETING can fail by, as WHY numbers it.
    private static final int MEETS = 0;
    private static final int NOT_IN_FORCE = 1;
    private static final int NOT_STANDING = 2;
    private static final int NOT_BEGUN = 3;
    private static final int NO_CASE = 4;
    private static final int NOT_BY_TIME = 5;
    private static final int ANOTHER_GOVERNS = 6;

    // What WHOLE's ways stand for: the LAWS' own ones, or one for all of them.
    private static final int[] WAY_LETTERS = {NONE, 'c', 'b', 'l'};
    private static final int[] TIME_LETTERS = {'n', 'h', 'a'};

    private final Pad pad;
    private final Law draft;
    private final World now;
    private final World[] images;
    private final boolean[] kept;
    private final Court court;
    private final Course course;
    private final Readings readings;
    private final Mender mender;
    private final Survey survey;

    public BetweenLaws() {
        pad = new Pad();
        draft = new Law();
        now = new World();
        images = new World[IMAGES];
        for (int n = 0; n < IMAGES; n++) images[n] = new World();
        kept = new boolean[IMAGES];
        Answers answers = new Answers();
        court = new Court(now);
        course = new Course(now, court);
        readings = new Readings(now, court, answers);
        mender = new Mender(now, court);
        survey = new Survey(now, court, answers);
    }

    // ---- 1 laws

    public int say(int sign) {
        if (!within(sign, 33, 126)) return OUTSIDE;
        return pad.add(sign) ? pad.count : FULL;
    }

    public int wipe() {
        int had = pad.count;
        pad.clear();
        return had;
    }

    public int fault() {
        return pad.readInto(draft);
    }

    public int law(int from, int till) {
        if (!isDay(from) || !within(till, from + 1, DAYS)) return OUTSIDE;
        if (pad.readInto(draft) != NONE) return NO;
        if (now.lawCount >= MOST_LAWS) return FULL;
        pad.clear();
        return now.addLaw(draft, from, till);
    }

    public int anew(int law) {
        if (!now.hasLaw(law)) return UNKNOWN;
        if (pad.readInto(draft) != NONE) return NO;
        pad.clear();
        now.laws[law].takeText(draft);
        return draft.cases;
    }

    public int move(int law, int what, int day) {
        if (!now.hasLaw(law)) return UNKNOWN;
        if (!within(what, 0, 1)) return OUTSIDE;
        Law moved = now.laws[law];
        int was = what == 0 ? moved.from : moved.till;
        if (what == 0) {
            if (!within(day, 0, moved.till - 1)) return OUTSIDE;
            moved.from = day;
        } else {
            if (!within(day, moved.from + 1, DAYS)) return OUTSIDE;
            moved.till = day;
        }
        now.orderLaws();
        return was;
    }

    public int of(int law, int what) {
        if (!now.hasLaw(law)) return UNKNOWN;
        Law asked = now.laws[law];
        switch (what) {
            case 0: return asked.from;
            case 1: return asked.till;
            case 2: return asked.cases;
            case 3: return asked.time;
            case 4: return asked.secondTime;
            case 5: return asked.lasting ? 1 : 0;
            case 6: return asked.length;
            case 7: return asked.way;
            case 8: return asked.secondWay;
            case 9: return asked.undoings;
            default: return OUTSIDE;
        }
    }

    public int part(int law, int at, int what) {
        if (!now.hasLaw(law)) return UNKNOWN;
        Law asked = now.laws[law];
        if (!within(at, 0, asked.cases - 1)) return UNKNOWN;
        if (!within(what, 0, 1)) return OUTSIDE;
        return what == 0 ? asked.caseMarks[at] : asked.caseGift[at];
    }

    public int force(int day, int how) {
        if (!isDay(day) || !within(how, 0, 2)) return OUTSIDE;
        if (how == 0) return now.lawsInForce(day);
        int gone = now.undone(day);
        return how == 1 ? gone : now.lawsInForce(day) & ~gone;
    }

    public int open(int i) {
        return i == -1 ? readings.count() : readings.word(i);
    }

    // ---- 2 pieces

    public int piece(int day, int marks) {
        if (!isDay(day) || !isMarks(marks)) return OUTSIDE;
        if (now.pieceCount >= MOST_PIECES) return FULL;
        return now.addPiece(day, marks);
    }

    public int about(int piece, int what) {
        if (!now.hasPiece(piece)) return UNKNOWN;
        Piece asked = now.pieces[piece];
        switch (what) {
            case 0: return asked.began;
            case 1: return asked.ended;
            case 2: return asked.judged;
            case 3: return asked.marks;
            case 4: return asked.wish;
            default: return OUTSIDE;
        }
    }

    public int change(int piece, int what, int v) {
        if (!now.hasPiece(piece)) return UNKNOWN;
        if (!within(what, 1, 3)) return OUTSIDE;
        Piece changed = now.pieces[piece];
        int was;
        if (what == 3) {
            if (!isMarks(v)) return OUTSIDE;
            was = changed.marks;
            changed.marks = v;
            return was;
        }
        if (v != -1 && !within(v, changed.began, DAYS - 1)) return OUTSIDE;
        int day = v == -1 ? NONE : v;
        if (what == 1) {
            was = changed.ended;
            changed.ended = day;
        } else {
            was = changed.judged;
            changed.judged = day;
        }
        return was;
    }

    public int set(int which, int v) {
        if (!within(which, 0, 2) || !within(v, 0, 1)) return OUTSIDE;
        int was;
        if (which == 0) {
            was = now.order;
            now.order = v;
        } else if (which == 1) {
            was = now.behind;
            now.behind = v;
        } else {
            was = now.mild;
            now.mild = v;
        }
        return was;
    }

    public int meets(int law, int piece, int day) {
        int refused = refusedLaw(law, piece, day);
        if (refused != 0) return refused;
        Piece asked = now.pieces[piece];
        int told = asked.dayOn(day);
        return court.obstacle(law, asked, told, now.undone(told)) == MEETS ? 1 : 0;
    }

    public int why(int law, int piece, int day) {
        int refused = refusedLaw(law, piece, day);
        if (refused != 0) return refused;
        Piece asked = now.pieces[piece];
        int told = asked.dayOn(day);
        if (court.governor(asked, told) == law) return 0;
        int obstacle = court.obstacle(law, asked, told, now.undone(told));
        return obstacle == MEETS ? ANOTHER_GOVERNS : obstacle;
    }

    public int governs(int piece, int day) {
        int refused = refusedPiece(piece, day);
        if (refused != 0) return refused;
        Piece asked = now.pieces[piece];
        return court.governor(asked, asked.dayOn(day));
    }

    public int those(int day, int how) {
        if (!isDay(day) || !within(how, 0, 3)) return OUTSIDE;
        int found = 0;
        for (int p = 0; p < now.pieceCount; p++) {
            if (court.isOfThose(now.pieces[p], day, how)) found |= 1 << p;
        }
        return found;
    }

    // ---- 3 gifts, passages, terms

    public int gives(int piece, int day) {
        int refused = refusedPiece(piece, day);
        return refused != 0 ? refused : court.given(now.pieces[piece], day);
    }

    public int route(int piece, int day, int i) {
        int refused = refusedPiece(piece, day);
        if (refused != 0) return refused;
        Piece asked = now.pieces[piece];
        int told = asked.dayOn(day);
        court.follow(asked, court.governor(asked, told), told);
        if (i == -1) return court.steps;
        return within(i, 0, court.steps - 1) ? court.path[i] : NONE;
    }

    public int sum(int day) {
        if (!isDay(day)) return OUTSIDE;
        int sum = 0;
        for (int p = 0; p < now.pieceCount; p++) {
            int given = court.given(now.pieces[p], day);
            if (given >= 0) sum += given;
        }
        return sum;
    }

    public int passage(int piece, int i, int what) {
        if (!now.hasPiece(piece)) return UNKNOWN;
        if (!within(what, 0, 1)) return OUTSIDE;
        if (i < -1) return NONE;
        boolean reached = course.goThrough(now.pieces[piece], i);
        if (i == -1) return course.passed;
        if (!reached) return NONE;
        return what == 0 ? course.passedOn : course.governor;
    }

    public int term(int piece, int day, int what) {
        int refused = refusedPiece(piece, day);
        if (refused != 0) return refused;
        if (!within(what, 0, 1)) return OUTSIDE;
        if (day < now.pieces[piece].began) return STATE;
        course.goTill(now.pieces[piece], day);
        return what == 0 ? course.start : course.end;
    }

    public int whole(int piece, int way) {
        if (!now.hasPiece(piece)) return UNKNOWN;
        if (!within(way, 0, WAY_LETTERS.length - 1)) return OUTSIDE;
        return course.wholeFrom(now.pieces[piece], WAY_LETTERS[way]);
    }

    // ---- 4 what hangs on words

    public int taken(int law) {
        return now.hasLaw(law) ? court.takenBy(law) : UNKNOWN;
    }

    public int brief(int what) {
        if (!within(what, 0, 1)) return OUTSIDE;
        if (now.lawCount == 0) return STATE;
        int briefest = now.briefest();
        return what == 0 ? briefest : now.laws[briefest].daysInForce();
    }

    public int caught(int law) {
        return now.hasLaw(law) ? court.caughtBy(law) : UNKNOWN;
    }

    public int read(int piece, int day, int reading) {
        int refused = refusedPiece(piece, day);
        if (refused != 0) return refused;
        if (!within(reading, 0, (1 << MOST_READ) - 1)) return OUTSIDE;
        return readings.givenBy(reading, now.pieces[piece], day);
    }

    public int ways(int piece, int day) {
        int refused = refusedPiece(piece, day);
        return refused != 0 ? refused : readings.unlike(now.pieces[piece], day);
    }

    public int hangs(int day, int what) {
        if (!isDay(day) || !within(what, 0, 1)) return OUTSIDE;
        readings.weigh(day);
        return what == 0 ? readings.heaviest : readings.weight;
    }

    public int wish(int piece, int v) {
        if (!now.hasPiece(piece)) return UNKNOWN;
        if (!within(v, -1, 99)) return OUTSIDE;
        Piece wished = now.pieces[piece];
        int was = wished.wish;
        wished.wish = v == -1 ? NONE : v;
        return was;
    }

    public int mend(int law, int day, int what) {
        if (!now.hasLaw(law)) return UNKNOWN;
        if (!isDay(day) || !within(what, 0, 3)) return OUTSIDE;
        mender.search(now.laws[law], day);
        if (mender.fewest == NONE) return NO;
        switch (what) {
            case 0: return mender.fewest;
            case 1: return mender.time;
            case 2: return mender.lasting;
            default: return mender.undoing;
        }
    }

    public int all(int day, int what) {
        if (!isDay(day) || !within(what, 0, 1)) return OUTSIDE;
        return what == 0 ? survey.unlike(day) : survey.firstUngoverned(day);
    }

    public int image(int n) {
        if (!within(n, 0, IMAGES - 1)) return OUTSIDE;
        images[n].copyFrom(now);
        kept[n] = true;
        return 1;
    }

    public int restore(int n) {
        if (!within(n, 0, IMAGES - 1)) return OUTSIDE;
        if (!kept[n]) return STATE;
        now.copyFrom(images[n]);
        return 1;
    }

    public int told(int what) {
        switch (what) {
            case 0: return now.lawCount;
            case 1: return now.pieceCount;
            case 2: return pad.count;
            case 3: return now.order;
            case 4: return now.behind;
            case 5: return now.mild;
            default: return OUTSIDE;
        }
    }

    // What a call about a PIECE on a DAY is refused with; 0 if it is not.
    private int refusedPiece(int piece, int day) {
        if (!now.hasPiece(piece)) return UNKNOWN;
        return isDay(day) ? 0 : OUTSIDE;
    }

    private int refusedLaw(int law, int piece, int day) {
        return now.hasLaw(law) ? refusedPiece(piece, day) : UNKNOWN;
    }

    private static boolean within(int v, int least, int most) {
        return v >= least && v <= most;
    }

    private static boolean isDay(int day) {
        return within(day, 0, DAYS - 1);
    }

    private static boolean isMarks(int marks) {
        return within(marks, 0, MARK_SETS - 1);
    }

    // The PAD, and the reading of its SIGNS: each step either stands on the sign that it wants and
    // goes behind it, or stops; so where a reading stops is THE FAULT, the end of the text included.
    private static final class Pad {
        private static final int END = -1;

        private final int[] signs;
        private int count;
        private int at;

        Pad() {
            signs = new int[MOST_SIGNS];
        }

        boolean add(int sign) {
            if (count >= signs.length) return false;
            signs[count] = sign;
            count++;
            return true;
        }

        void clear() {
            count = 0;
        }

        // Makes a LAW's text of the SIGNS; answers THE FAULT, or NONE.
        int readInto(Law law) {
            law.blank();
            at = 0;
            boolean stands = readCases(law);
            if (stands && takes('/')) stands = readWords(law);
            if (!stands || at < count) return at;
            law.fitCases();
            return NONE;
        }

        private boolean readCases(Law law) {
            if (!readCase(law)) return false;
            for (int more = 1; more < MOST_CASES && takes('|'); more++) {
                if (!readCase(law)) return false;
            }
            return true;
        }

        private boolean readCase(Law law) {
            int marks = readMarks();
            if (marks == NONE || !takes(':')) return false;
            int gift = takes('@') ? readLawNumber() : readNumber();
            if (gift == NONE) return false;
            law.addCase(marks, gift);
            return true;
        }

        private int readMarks() {
            if (takes('*')) return 0;
            int marks = 0;
            for (int letter = 'a'; letter <= 'e'; letter++) {
                if (takes(letter)) marks |= 1 << (letter - 'a');
            }
            return marks == 0 ? NONE : marks;
        }

        // The digit of a LAW, as a GIFT that SENDS to it.
        private int readLawNumber() {
            int digit = readDigit(MOST_LAWS - 1);
            return digit == NONE ? NONE : SENDS + digit;
        }

        // 1 or 2 digits.
        private int readNumber() {
            int first = readDigit(9);
            if (first == NONE) return NONE;
            int second = readDigit(9);
            return second == NONE ? first : 10 * first + second;
        }

        private int readDigit(int most) {
            int digit = next() - '0';
            if (!within(digit, 0, most)) return NONE;
            at++;
            return digit;
        }

        // The WORDS from the first on: each may be one of those that come later than the one ahead.
        private boolean readWords(Law law) {
            int rank = 0;
            for (int word = 0; word < MOST_SIGNS; word++) {
                rank = readWord(law, rank);
                if (rank == NONE) return false;
                if (!takes(',')) return true;
            }
            return false;
        }

        // A WORD no earlier than the rank; answers the rank of the next one, or NONE.
        private int readWord(Law law, int rank) {
            if (rank < 1 && isOneOf(next(), 'n', 'h', 'a')) return readTime(law) ? 1 : NONE;
            if (rank < 2 && takes('w')) {
                law.lasting = true;
                return 2;
            }
            if (rank < 3 && takes('t')) return readTerm(law) ? 3 : NONE;
            if (!takes('u')) return NONE;
            int undone = readDigit(MOST_LAWS - 1);
            if (undone == NONE) return NONE;
            law.undoings |= 1 << undone;
            return 3;
        }

        private boolean readTime(Law law) {
            law.time = next();
            law.timeRead = law.time;
            at++;
            if (!takes('?')) return true;
            if (!isOneOf(next(), 'n', 'h', 'a') || next() == law.time) return false;
            law.secondTime = next();
            at++;
            return true;
        }

        private boolean readTerm(Law law) {
            law.length = readNumber();
            if (law.length == NONE || !isOneOf(next(), 'c', 'b', 'l')) return false;
            law.way = next();
            at++;
            if (!takes('?')) return true;
            if (!isOneOf(next(), 'c', 'b', 'l') || next() == law.way) return false;
            law.secondWay = next();
            at++;
            return true;
        }

        private boolean takes(int sign) {
            if (next() != sign) return false;
            at++;
            return true;
        }

        private int next() {
            return at < count ? signs[at] : END;
        }

        private static boolean isOneOf(int sign, int a, int b, int c) {
            return sign == a || sign == b || sign == c;
        }
    }

    // A LAW: its FORCE and its text.
    private static final class Law {
        private int from;
        private int till;
        private int cases;
        private final int[] caseMarks;
        private final int[] caseGift;
        // For each set of MARKS: the GIFT of the fitting CASE (NONE: none fits), how many MARKS it has.
        private final int[] gifts;
        private final int[] weights;
        private int time;
        private int secondTime;
        // The letter by which TIME is read now: time, but while a READING or MENDING is tried.
        private int timeRead;
        private boolean lasting;
        private int length;
        private int way;
        private int secondWay;
        private int undoings;

        Law() {
            caseMarks = new int[MOST_CASES];
            caseGift = new int[MOST_CASES];
            gifts = new int[MARK_SETS];
            weights = new int[MARK_SETS];
        }

        void blank() {
            cases = 0;
            time = 'n';
            secondTime = NONE;
            timeRead = time;
            lasting = false;
            length = NONE;
            way = NONE;
            secondWay = NONE;
            undoings = 0;
        }

        void addCase(int marks, int gift) {
            if (cases >= MOST_CASES) return;
            caseMarks[cases] = marks;
            caseGift[cases] = gift;
            cases++;
        }

        void fitCases() {
            for (int marks = 0; marks < MARK_SETS; marks++) {
                int c = firstFitting(marks);
                gifts[marks] = c == NONE ? NONE : caseGift[c];
                weights[marks] = c == NONE ? 0 : Integer.bitCount(caseMarks[c]);
            }
        }

        private int firstFitting(int marks) {
            for (int c = 0; c < cases; c++) {
                if ((caseMarks[c] & ~marks) == 0) return c;
            }
            return NONE;
        }

        void takeText(Law other) {
            cases = other.cases;
            System.arraycopy(other.caseMarks, 0, caseMarks, 0, MOST_CASES);
            System.arraycopy(other.caseGift, 0, caseGift, 0, MOST_CASES);
            System.arraycopy(other.gifts, 0, gifts, 0, MARK_SETS);
            System.arraycopy(other.weights, 0, weights, 0, MARK_SETS);
            time = other.time;
            secondTime = other.secondTime;
            timeRead = other.timeRead;
            lasting = other.lasting;
            length = other.length;
            way = other.way;
            secondWay = other.secondWay;
            undoings = other.undoings;
        }

        void copyFrom(Law other) {
            takeText(other);
            from = other.from;
            till = other.till;
        }

        boolean isInForce(int day) {
            return from <= day && day < till;
        }

        int daysInForce() {
            return till - from;
        }

        // The GIFT of the CASE that fits these MARKS, or NONE.
        int giftFor(int marks) {
            return marks >= 0 && marks < MARK_SETS ? gifts[marks] : NONE;
        }

        // How many MARKS the CASE has that fits these.
        int weightFor(int marks) {
            return marks >= 0 && marks < MARK_SETS ? weights[marks] : 0;
        }

        boolean reachesByTime(Piece piece) {
            boolean beganSince = piece.began >= from;
            boolean lasted = piece.ended == NONE || piece.ended >= from;
            if (lasting && !lasted) return false;
            if (timeRead == 'a') return true;
            return beganSince || (timeRead == 'h' && lasted);
        }
    }

    // A PIECE of facts, with its WISH.
    private static final class Piece {
        private int began;
        private int ended;
        private int judged;
        private int marks;
        private int wish;

        void begin(int day, int itsMarks) {
            began = day;
            ended = NONE;
            judged = NONE;
            marks = itsMarks;
            wish = NONE;
        }

        void copyFrom(Piece other) {
            began = other.began;
            ended = other.ended;
            judged = other.judged;
            marks = other.marks;
            wish = other.wish;
        }

        // The DAY that a DAY tells: none later than the one on which it was JUDGED.
        int dayOn(int day) {
            return judged == NONE ? day : Math.min(day, judged);
        }
    }

    // All that an IMAGE keeps.
    private static final class World {
        private final Law[] laws;
        private int lawCount;
        // The LAWS from the latest first DAY on, of like ones the greatest number first.
        private final int[] latestFirst;
        private final Piece[] pieces;
        private int pieceCount;
        private int order;
        private int behind;
        private int mild;

        World() {
            laws = new Law[MOST_LAWS];
            for (int l = 0; l < MOST_LAWS; l++) laws[l] = new Law();
            latestFirst = new int[MOST_LAWS];
            pieces = new Piece[MOST_PIECES];
            for (int p = 0; p < MOST_PIECES; p++) pieces[p] = new Piece();
        }

        boolean hasLaw(int law) {
            return law >= 0 && law < lawCount;
        }

        boolean hasPiece(int piece) {
            return piece >= 0 && piece < pieceCount;
        }

        int addLaw(Law text, int from, int till) {
            if (lawCount >= MOST_LAWS) return FULL;
            Law added = laws[lawCount];
            added.takeText(text);
            added.from = from;
            added.till = till;
            lawCount++;
            orderLaws();
            return lawCount - 1;
        }

        int addPiece(int day, int marks) {
            if (pieceCount >= MOST_PIECES) return FULL;
            pieces[pieceCount].begin(day, marks);
            pieceCount++;
            return pieceCount - 1;
        }

        void orderLaws() {
            for (int l = 0; l < lawCount; l++) {
                int at = l;
                while (at > 0 && laws[l].from >= laws[latestFirst[at - 1]].from) {
                    latestFirst[at] = latestFirst[at - 1];
                    at--;
                }
                latestFirst[at] = l;
            }
        }

        int lawsInForce(int day) {
            int found = 0;
            for (int l = 0; l < lawCount; l++) {
                if (laws[l].isInForce(day)) found |= 1 << l;
            }
            return found;
        }

        int undone(int day) {
            int gone = 0;
            for (int i = 0; i < lawCount; i++) {
                int l = latestFirst[i];
                if (laws[l].isInForce(day) && (gone >> l & 1) == 0) gone |= laws[l].undoings;
            }
            return gone & ((1 << lawCount) - 1);
        }

        // Whether a LAW begins or ends on a DAY: on all others the same LAWS are in FORCE as ahead.
        boolean turnsOn(int day) {
            for (int l = 0; l < lawCount; l++) {
                if (laws[l].from == day || laws[l].till == day) return true;
            }
            return false;
        }

        int briefest() {
            int found = 0;
            for (int l = 1; l < lawCount; l++) {
                if (laws[l].daysInForce() < laws[found].daysInForce()) found = l;
            }
            return found;
        }

        void copyFrom(World other) {
            lawCount = other.lawCount;
            for (int l = 0; l < lawCount; l++) laws[l].copyFrom(other.laws[l]);
            System.arraycopy(other.latestFirst, 0, latestFirst, 0, MOST_LAWS);
            pieceCount = other.pieceCount;
            for (int p = 0; p < pieceCount; p++) pieces[p].copyFrom(other.pieces[p]);
            order = other.order;
            behind = other.behind;
            mild = other.mild;
        }
    }

    // Which LAW GOVERNS a PIECE, and what it GIVES.
    private static final class Court {
        private final World world;
        // Of the last governor(..): whether it was TWO.
        private boolean two;
        // Of the last follow(..): the LAWS come to.
        private final int[] path;
        private int steps;

        Court(World itsWorld) {
            world = itsWorld;
            path = new int[MOST_LAWS];
        }

        // The first of what is asked for MEETING that is not so, or MEETS; "gone" is what is UNDONE.
        int obstacle(int l, Piece piece, int day, int gone) {
            if (!world.hasLaw(l)) return NOT_IN_FORCE;
            Law law = world.laws[l];
            if (!law.isInForce(day)) return NOT_IN_FORCE;
            if ((gone >> l & 1) != 0) return NOT_STANDING;
            if (day < piece.began) return NOT_BEGUN;
            if (law.giftFor(piece.marks) == NONE) return NO_CASE;
            return law.reachesByTime(piece) ? MEETS : NOT_BY_TIME;
        }

        // The LAW that GOVERNS on just this DAY (whatever DAY it was JUDGED on), or NONE.
        int governor(Piece piece, int day) {
            two = false;
            if (day < piece.began) return NONE;
            int gone = world.undone(day);
            int found = choose(piece, day, gone, MEETS);
            // BEHIND asks the same of the DAY it began, but for what TIME says.
            if (found == NONE && world.behind == 1) found = choose(piece, piece.began, gone, NOT_BY_TIME);
            return found;
        }

        // The first by ORDER of the LAWS that MEET, or whose obstacle is the one allowed.
        private int choose(Piece piece, int day, int gone, int allowed) {
            int best = NONE;
            for (int l = 0; l < world.lawCount; l++) {
                int obstacle = obstacle(l, piece, day, gone);
                if (obstacle != MEETS && obstacle != allowed) continue;
                int ahead = best == NONE ? 1 : compare(world.laws[l], world.laws[best], piece.marks);
                if (ahead > 0) best = l;
                if (ahead >= 0) two = ahead == 0;
            }
            return best;
        }

        // Above 0: the one goes ahead of the other by ORDER; 0: they are alike in both.
        private int compare(Law one, Law other, int marks) {
            int later = one.from - other.from;
            int heavier = one.weightFor(marks) - other.weightFor(marks);
            if (world.order == 0) return later != 0 ? later : heavier;
            return heavier != 0 ? heavier : later;
        }

        // The number that sendings from a LAW on lead to on a DAY, or NONE, or STATE; keeps the path.
        int follow(Piece piece, int first, int day) {
            int gone = world.undone(day);
            int been = 0;
            int l = first;
            steps = 0;
            for (int step = 0; step <= MOST_LAWS; step++) {
                if (!world.hasLaw(l) || (gone >> l & 1) != 0) return NONE;
                int gift = world.laws[l].giftFor(piece.marks);
                if (gift == NONE) return NONE;
                if ((been >> l & 1) != 0 || steps >= path.length) return STATE;
                been |= 1 << l;
                path[steps] = l;
                steps++;
                if (gift < SENDS) return gift;
                l = gift - SENDS;
            }
            return STATE;
        }

        // What a PIECE GIVES on a DAY.
        int given(Piece piece, int day) {
            int told = piece.dayOn(day);
            int governor = governor(piece, told);
            int given = follow(piece, governor, told);
            if (world.mild == 0 || given < 0 || !world.hasLaw(governor)) return given;
            if (world.laws[governor].from <= piece.began) return given;
            int early = follow(piece, governor(piece, piece.began), piece.began);
            return early < 0 ? given : Math.min(given, early);
        }

        boolean isOfThose(Piece piece, int day, int how) {
            int told = piece.dayOn(day);
            boolean begun = piece.began <= told;
            if (how == 3) return begun;
            int governor = governor(piece, told);
            if (how == 0) return two;
            if (how == 1) return begun && governor == NONE;
            return follow(piece, governor, told) == STATE;
        }

        int takenBy(int l) {
            int found = 0;
            for (int p = 0; p < world.pieceCount; p++) {
                Piece piece = world.pieces[p];
                int first = world.laws[l].from;
                boolean over = piece.ended != NONE && piece.ended < first;
                if (over && governor(piece, piece.dayOn(first)) == l) found |= 1 << p;
            }
            return found;
        }

        int caughtBy(int l) {
            int found = 0;
            for (int p = 0; p < world.pieceCount; p++) {
                if (everGoverns(l, world.pieces[p])) found |= 1 << p;
            }
            return found;
        }

        private boolean everGoverns(int l, Piece piece) {
            int last = piece.dayOn(DAYS - 1);
            for (int day = piece.began; day <= last; day++) {
                if (day != piece.began && !world.turnsOn(day)) continue;
                if (governor(piece, day) == l) return true;
            }
            return false;
        }
    }

    // How governing goes on for a PIECE from LAW to LAW, and its TERM through them.
    private static final class Course {
        private final World world;
        private final Court court;
        // How many PASSAGES so far, the DAY of the last, the LAW since then.
        private int passed;
        private int passedOn;
        private int governor;
        private int start;
        private int end;

        Course(World itsWorld, Court itsCourt) {
            world = itsWorld;
            court = itsCourt;
        }

        private void begin(Piece piece) {
            passed = 0;
            passedOn = NONE;
            governor = NONE;
            start = piece.began;
            end = NONE;
        }

        // Whether it came to the i-th PASSAGE, where it stops; i = -1 goes through all of them.
        boolean goThrough(Piece piece, int i) {
            begin(piece);
            for (int day = piece.began; day < DAYS; day++) {
                goOn(piece, day, NONE);
                if (passed - 1 == i) return true;
            }
            return false;
        }

        void goTill(Piece piece, int last) {
            begin(piece);
            for (int day = piece.began; day <= last && day < DAYS; day++) goOn(piece, day, NONE);
        }

        // The first DAY that is no less than END, with one WAY for all LAWS or with their own (NONE).
        int wholeFrom(Piece piece, int way) {
            begin(piece);
            for (int day = piece.began; day < DAYS; day++) {
                goOn(piece, day, way);
                if (end != NONE && day >= end) return day;
            }
            return NONE;
        }

        private void goOn(Piece piece, int day, int way) {
            boolean first = day == piece.began;
            if (!first && !world.turnsOn(day)) return;
            int found = court.governor(piece, day);
            if (!first && found == governor) return;
            passed++;
            passedOn = day;
            governor = found;
            if (!world.hasLaw(found) || world.laws[found].length == NONE) {
                end = NONE;
                return;
            }
            Law law = world.laws[found];
            carryTerm(law.length, way == NONE ? law.way : way, day);
        }

        private void carryTerm(int length, int way, int day) {
            if (end == NONE || way == 'c') {
                end = start + length;
            } else if (way == 'b') {
                start = day;
                end = day + length;
            } else {
                end = Math.min(end, day + length);
            }
        }
    }

    // The OPEN words, and what PIECES GIVE by READINGS of them.
    private static final class Readings {
        private final World world;
        private final Court court;
        private final Answers answers;
        // Of the last weigh(..): the word on which most hangs, and how many PIECES.
        private int heaviest;
        private int weight;

        Readings(World itsWorld, Court itsCourt, Answers itsAnswers) {
            world = itsWorld;
            court = itsCourt;
            answers = itsAnswers;
        }

        int count() {
            int found = 0;
            for (int l = 0; l < world.lawCount; l++) {
                if (world.laws[l].secondTime != NONE) found++;
                if (world.laws[l].secondWay != NONE) found++;
            }
            return found;
        }

        // 10 times the LAW of the i-th OPEN word, and 0 for TIME, 1 for WAY; NONE.
        int word(int i) {
            int n = 0;
            for (int l = 0; l < world.lawCount; l++) {
                if (world.laws[l].secondTime != NONE) {
                    if (n == i) return 10 * l;
                    n++;
                }
                if (world.laws[l].secondWay != NONE) {
                    if (n == i) return 10 * l + 1;
                    n++;
                }
            }
            return NONE;
        }

        // The bits of those of the first 8 that are words of TIME: a WAY changes nothing that is GIVEN.
        private int timeWords() {
            int found = 0;
            for (int i = 0; i < MOST_READ; i++) {
                int word = word(i);
                if (word != NONE && word % 10 == 0) found |= 1 << i;
            }
            return found;
        }

        // All is told by READING 0: who reads by another one goes back to it.
        private void readBy(int reading) {
            int n = 0;
            for (int l = 0; l < world.lawCount; l++) {
                Law law = world.laws[l];
                law.timeRead = law.time;
                if (law.secondTime != NONE) {
                    if (n < MOST_READ && (reading >> n & 1) != 0) law.timeRead = law.secondTime;
                    n++;
                }
                if (law.secondWay != NONE) n++;
            }
        }

        int givenBy(int reading, Piece piece, int day) {
            readBy(reading);
            int given = court.given(piece, day);
            readBy(0);
            return given;
        }

        int unlike(Piece piece, int day) {
            int times = timeWords();
            answers.clear();
            for (int reading = 0; reading < 1 << MOST_READ; reading++) {
                if ((reading & ~times) != 0) continue;
                answers.put(givenBy(reading, piece, day));
            }
            return answers.count();
        }

        void weigh(int day) {
            int words = Math.min(count(), MOST_READ);
            heaviest = NONE;
            weight = 0;
            for (int i = 0; i < words; i++) {
                int hanging = hanging(1 << i, day);
                if (heaviest == NONE || hanging > weight) {
                    heaviest = i;
                    weight = hanging;
                }
            }
        }

        private int hanging(int reading, int day) {
            int found = 0;
            for (int p = 0; p < world.pieceCount; p++) {
                Piece piece = world.pieces[p];
                int given = court.given(piece, day);
                readBy(reading);
                if (court.given(piece, day) != given) found++;
                readBy(0);
            }
            return found;
        }
    }

    // A set of what GIVES may answer.
    private static final class Answers {
        private long low;
        private long high;

        void clear() {
            low = 0;
            high = 0;
        }

        void put(int answer) {
            // NONE and STATE stand ahead of the numbers.
            int place = answer == NONE ? 0 : answer == STATE ? 1 : answer + 2;
            if (place < 64) low |= 1L << place;
            else high |= 1L << (place - 64);
        }

        int count() {
            return Long.bitCount(low) + Long.bitCount(high);
        }
    }

    // MENDING: other words tried in a LAW, which has its own again in the end.
    private static final class Mender {
        private final World world;
        private final Court court;
        // What each PIECE has to GIVE.
        private final int[] due;
        // How many words are changed (NONE: no words do), and which words.
        private int fewest;
        private int time;
        private int lasting;
        private int undoing;

        Mender(World itsWorld, Court itsCourt) {
            world = itsWorld;
            court = itsCourt;
            due = new int[MOST_PIECES];
        }

        // The words are tried in the order in which the document takes them, so that of several that
        // change as many the first stays; what changes no fewer than those found is not tried.
        void search(Law law, int day) {
            settleDue(day);
            int named = law.undoings;
            boolean had = law.lasting;
            fewest = NONE;
            for (int tried = 0; tried < 2 * TIME_LETTERS.length; tried++) {
                law.timeRead = TIME_LETTERS[tried / 2];
                law.lasting = tried % 2 == 1;
                int changed = law.secondTime != NONE || law.time != law.timeRead ? 1 : 0;
                if (law.lasting != had) changed++;
                for (int u = -1; u < world.lawCount; u++) {
                    int words = u < 0 ? changed : changed + 1;
                    if (fewest != NONE && words >= fewest) break;
                    law.undoings = u < 0 ? named : named | 1 << u;
                    if (comesOut(day)) keep(words, law, u);
                }
            }
            law.timeRead = law.time;
            law.lasting = had;
            law.undoings = named;
        }

        private void settleDue(int day) {
            for (int p = 0; p < world.pieceCount; p++) {
                Piece piece = world.pieces[p];
                due[p] = piece.wish != NONE ? piece.wish : court.given(piece, day);
            }
        }

        private void keep(int words, Law law, int u) {
            fewest = words;
            time = law.timeRead;
            lasting = law.lasting ? 1 : 0;
            undoing = u < 0 ? NONE : u;
        }

        private boolean comesOut(int day) {
            for (int p = 0; p < world.pieceCount; p++) {
                if (court.given(world.pieces[p], day) != due[p]) return false;
            }
            return true;
        }
    }

    // ALL PIECES that could be. Only on a DAY on which a LAW begins or ends may a PIECE that begins
    // then fare otherwise than one that begins on the DAY ahead.
    private static final class Survey {
        private final World world;
        private final Court court;
        private final Answers answers;
        private final Piece could;

        Survey(World itsWorld, Court itsCourt, Answers itsAnswers) {
            world = itsWorld;
            court = itsCourt;
            answers = itsAnswers;
            could = new Piece();
        }

        int unlike(int day) {
            answers.clear();
            for (int began = 0; began <= day; began++) {
                if (began > 0 && !world.turnsOn(began)) continue;
                for (int marks = 0; marks < MARK_SETS; marks++) {
                    could.begin(began, marks);
                    answers.put(court.given(could, day));
                }
            }
            return answers.count();
        }

        int firstUngoverned(int day) {
            for (int began = 0; began <= day; began++) {
                if (began > 0 && !world.turnsOn(began)) continue;
                for (int marks = 0; marks < MARK_SETS; marks++) {
                    could.begin(began, marks);
                    if (court.governor(could, day) == NONE) return 100 * began + marks;
                }
            }
            return NONE;
        }
    }
}
