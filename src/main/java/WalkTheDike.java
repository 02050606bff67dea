import java.util.Arrays;

/** Who walks the dike, what each night harms, and what would harm less: see README.md. */
public final class WalkTheDike {
    public static final int NONE = -1, BAD = -2, STATE = -3, FULL = -4;
    public static final long NO = -4611686018427387904L;

    private static final int NO_SUCH = -5, NOT_AS_TOLD = -7;
    private static final int NOTHING = -11, OUTSIDE = -12, UNLIKE = -13, BELOW = -14;

    private static final int MOST_HOURS = 12, MOST_PIECES = 8, MOST_MEN = 5, MOST_PACE = 3;
    private static final int MOST_WORTH = 99, MOST_SACKS = 3, MOST_MORE = 5, MOST_WATER = 9;
    private static final int MOST_COUNT = 9999, MOST_SEED = 99999;
    private static final int MOST_STEP = 12, MOST_BREAKS = 6;
    private static final long WHOLE = 1000000000L;
    // More than any night can harm, even if each PIECE were found and broken in each hour.
    private static final long BEYOND = 1000000000000000000L;

    // What of night().
    private static final int HOURS = 0, BREAKS = 1, WIND = 2, TRUST = 3, COMES = 4;
    private static final int NUMBERS_OF_NIGHT = 5;
    private static final int[] LEAST_OF_NIGHT = {1, 2, 0, 0, 0};
    private static final int[] MOST_OF_NIGHT = {12, 6, 9, 8, 12};

    private static final int ROUND = 0, EVEN = 1, RISKY = 2, TOLD = 3, PAIR = 4, SLEEPER = 5;
    private static final int A_PIECE = 6;

    // The three things that a TEXT tells, in its order.
    private static final int RISK = 0, SEEN = 1, HARM = 2, THINGS = 3;
    private static final int[] MOST_OF_THING = {200, 100, 999};

    // Who looks, in the order of the looks; the men's numbers stand ahead of these.
    private static final int VILLAGE = 5, LAMP = 6, ONE_MORE = 7, LOOKERS = 8;

    private static final int MOST_TAPE = 160, MOST_TEXTS = 6, MOST_OPEN = 5, MOST_DIGITS = 4;
    private static final int FAULT = -100;
    private static final int NAMES = 6;
    private static final String WORDS = "water old wind step worth pace risk seen harm or and not ";
    private static final String FIRST_LAW =
        "risk water * 4 + old * 20 + step ; seen 30 + step * 15 - pace * 10 ; harm step * worth ; ";

    // Tokens: 1 .. 6 are the NAMES, then the KEYS in the order of WORDS; a sign is its byte.
    private static final int THE_END = -1, NO_TOKEN = -2, NUMBER = 0;
    private static final int KEY_OF_RISK = 7, OR = 10, AND = 11, NOT = 12;

    // Codes of a read TEXT: a NUMBER is itself, a NAME is -1 .. -6, below stands what joins them.
    private static final int DO_NOT = -7, DO_NEGATE = -8;
    private static final int DO_OR = -9, DO_AND = -10, DO_LESS = -11, DO_EQUAL = -12;
    private static final int DO_PLUS = -13, DO_MINUS = -14, DO_TIMES = -15;

    private static final int SHEETS = 4, MOST_CELLS = 40, MISSING = -1;
    private static final int BYTES = 0, SHORTS = 1, INTS = 2;

    private final Dike dike = new Dike();
    private final Men men = new Men();
    private final Texts texts = new Texts();
    private final Tape tape = new Tape(texts);
    private final Chances chances = new Chances(dike, texts);
    private final Walk walk = new Walk(dike, men, chances);
    private final Reckoning reckoning = new Reckoning(dike, walk, chances);
    private final Drawing drawing = new Drawing(dike, walk, chances);
    private final Sheets sheets = new Sheets();
    private final Image kept = new Image();
    private final Best best = new Best();

    public WalkTheDike() {
        for (int i = 0; i < FIRST_LAW.length(); i++) {
            tape.add(FIRST_LAW.charAt(i));
        }
        tape.read();
        tape.size = 0;
    }

    // ---- pieces, the night

    public int piece(int old, int v) {
        if (!within(old, 0, 1) || !within(v, 0, MOST_WORTH)) {
            return BAD;
        }
        if (dike.pieces >= MOST_PIECES) {
            return FULL;
        }
        chances.forget();
        return dike.add(old, v);
    }

    public int set(int p, int what, int v) {
        if (!dike.has(p)) {
            return NO_SUCH;
        }
        if (!within(what, 0, 2)) {
            return NOT_AS_TOLD;
        }
        int most = what == 0 ? 1 : what == 1 ? MOST_WORTH : MOST_SACKS;
        if (!within(v, 0, most)) {
            return NOT_AS_TOLD;
        }
        int[] row = what == 0 ? dike.old : what == 1 ? dike.worth : dike.sacks;
        int was = row[p];
        row[p] = v;
        chances.forget();
        return was;
    }

    public int night(int what, int v) {
        if (!within(what, 0, NUMBERS_OF_NIGHT - 1)) {
            return NONE;
        }
        if (!within(v, LEAST_OF_NIGHT[what], MOST_OF_NIGHT[what])) {
            return BAD;
        }
        int was = dike.night[what];
        dike.night[what] = v;
        chances.forget();
        return was;
    }

    public int water(int h, int v) {
        if (!within(h, 0, MOST_HOURS - 1)) {
            return NONE;
        }
        if (!within(v, 0, MOST_WATER)) {
            return BAD;
        }
        int was = dike.water[h];
        dike.water[h] = v;
        chances.forget();
        return was;
    }

    public int count(int what) {
        if (within(what, 0, NUMBERS_OF_NIGHT - 1)) {
            return dike.night[what];
        }
        switch (what) {
            case 5: return dike.pieces;
            case 6: return men.count;
            case 7: return texts.count;
            case 8: return texts.law;
            case 9: return tape.size;
            default: return BAD;
        }
    }

    // ---- the law

    public int feed(long w, int n) {
        if (!within(n, 1, 8)) {
            return BAD;
        }
        if (tape.size + n > MOST_TAPE) {
            return FULL;
        }
        for (int i = n - 1; i >= 0; i--) {
            tape.add((int) (w >> (8 * i)) & 255);
        }
        return tape.size;
    }

    public int text() {
        if (texts.count >= MOST_TEXTS) {
            return FULL;
        }
        int answer = tape.read();
        tape.size = 0;
        return answer;
    }

    public int force(int t) {
        if (!within(t, 0, texts.count - 1)) {
            return BAD;
        }
        int was = texts.law;
        texts.law = t;
        chances.forget();
        return was;
    }

    public int asks(int part, int p, int h, int step, int pace) {
        if (!dike.has(p)) {
            return NO_SUCH;
        }
        if (!within(part, 0, THINGS - 1) || !within(h, 0, MOST_HOURS - 1)
                || !within(step, 0, MOST_STEP) || !within(pace, 0, MOST_PACE)) {
            return NOT_AS_TOLD;
        }
        return chances.ask(part, p, h, step, pace);
    }

    // ---- men

    public int man(int kind, int ends, int rest, int s) {
        if (!within(kind, ROUND, SLEEPER) || ends < 0 || rest < 0
                || !dike.has(ends / 10) || !dike.has(ends % 10)
                || !within(rest / 10, 1, MOST_PACE) || !within(rest % 10, 0, MOST_MORE)) {
            return BAD;
        }
        if (kind == TOLD) {
            int refusal = rowRefused(s, MOST_HOURS, MOST_PIECES - 1);
            if (refusal != 0) {
                return refusal;
            }
        }
        if (men.count >= MOST_MEN) {
            return FULL;
        }
        int m = men.add(kind, ends, rest);
        for (int h = 0; h < MOST_HOURS; h++) {
            men.told[m * MOST_HOURS + h] = kind == TOLD ? sheets.at(s, h) : 0;
        }
        return m;
    }

    public int pace(int m, int v) {
        if (!men.has(m)) {
            return NONE;
        }
        if (!within(v, 1, MOST_PACE)) {
            return BAD;
        }
        int was = men.pace[m];
        men.pace[m] = v;
        return was;
    }

    public int manTold(int m, int what) {
        if (!men.has(m)) {
            return NO_SUCH;
        }
        switch (what) {
            case 0: return men.kind[m];
            case 1: return men.post[m];
            case 2: return men.end[m];
            case 3: return men.pace[m];
            case 4: return men.more[m];
            default: return within(what, 5, 4 + MOST_HOURS) ? men.told[m * MOST_HOURS + what - 5] : NOT_AS_TOLD;
        }
    }

    public int where(int m, int h) {
        if (!men.has(m)) {
            return NO_SUCH;
        }
        if (!dike.hasHour(h)) {
            return NOT_AS_TOLD;
        }
        walk.go();
        return walk.placeOf(m, h);
    }

    public int looked(int h) {
        if (!dike.hasHour(h)) {
            return BAD;
        }
        walk.go();
        int bits = 0;
        for (int p = 0; p < dike.pieces; p++) {
            bits |= walk.lookedAt(p, h) ? 1 << p : 0;
        }
        return bits;
    }

    public int often(int p, int what) {
        if (!dike.has(p)) {
            return NO_SUCH;
        }
        if (!within(what, 0, 1)) {
            return NOT_AS_TOLD;
        }
        walk.go();
        return what == 0 ? hoursLookedAt(p) : longestNotLookedAt(p);
    }

    public int meet(int a, int b) {
        if (!men.has(a) || !men.has(b) || a == b) {
            return NO_SUCH;
        }
        walk.go();
        for (int h = 0; h < dike.night[HOURS]; h++) {
            if (walk.together(a, b, h)) {
                return h;
            }
        }
        return -1;
    }

    // ---- what comes of it

    public long run(int what) {
        if (!within(what, 0, 2)) {
            return NO;
        }
        walk.go();
        long all = 0;
        for (int p = 0; p < dike.pieces; p++) {
            reckoning.reckon(p, dike.night[HOURS]);
            all += reckoning.told(what);
        }
        return all;
    }

    public long harm(int p, int what) {
        if (!dike.has(p) || !within(what, 0, 2)) {
            return NO;
        }
        walk.go();
        reckoning.reckon(p, dike.night[HOURS]);
        return reckoning.told(what);
    }

    public long state(int p, int h, int step) {
        if (!dike.has(p) || !dike.hasHour(h) || !within(step, 0, dike.night[BREAKS])) {
            return NO;
        }
        walk.go();
        reckoning.reckon(p, h + 1);
        return reckoning.parts[step];
    }

    public int worst() {
        walk.go();
        best.begin(0);
        for (int p = 0; p < dike.pieces; p++) {
            reckoning.reckon(p, dike.night[HOURS]);
            best.offer(p, -reckoning.told(1));
        }
        return best.which;
    }

    // ---- one more

    public long more(int p, int h) {
        if (!dike.has(p) || !dike.hasHour(h)) {
            return NO;
        }
        long now = allHarm();
        walk.morePiece = p;
        walk.moreHour = h;
        long then = allHarm();
        walk.morePiece = -1;
        return now - then;
    }

    public long bestLook(int what) {
        if (!within(what, 0, 1)) {
            return NO;
        }
        long now = allHarm();
        best.begin(now);
        for (int h = 0; h < dike.night[HOURS]; h++) {
            for (int p = 0; p < dike.pieces; p++) {
                walk.morePiece = p;
                walk.moreHour = h;
                best.offer(10 * h + p, allHarm());
            }
        }
        walk.morePiece = -1;
        return what == 0 ? best.which : now - best.least;
    }

    public int lamp(int p, int is) {
        if (!dike.has(p)) {
            return NONE;
        }
        if (!within(is, 0, 1)) {
            return BAD;
        }
        int was = dike.lamp[p];
        dike.lamp[p] = is;
        return was;
    }

    public int ready(int what) {
        if (!within(what, 0, 1)) {
            return BAD;
        }
        int[] row = what == 0 ? dike.lamp : dike.sacks;
        int most = what == 0 ? 1 : MOST_SACKS;
        best.begin(allHarm());
        for (int p = 0; p < dike.pieces; p++) {
            if (row[p] < most) {
                row[p]++;
                best.offer(p, allHarm());
                row[p]--;
            }
        }
        return best.which;
    }

    public long rounds(int m, int what) {
        if (!men.has(m) || !within(what, 0, 1)) {
            return NO;
        }
        int kind = men.kind[m];
        int post = men.post[m];
        int end = men.end[m];
        men.kind[m] = EVEN;
        best.begin(BEYOND);
        for (int a = 0; a < dike.pieces; a++) {
            for (int b = a; b < dike.pieces; b++) {
                men.post[m] = a;
                men.end[m] = b;
                best.offer(10 * a + b, allHarm());
            }
        }
        men.kind[m] = kind;
        men.post[m] = post;
        men.end[m] = end;
        return what == 0 ? best.which : best.least;
    }

    public int quick(int m) {
        if (!men.has(m)) {
            return NO_SUCH;
        }
        int was = men.pace[m];
        best.begin(BEYOND);
        for (int pace = 1; pace <= MOST_PACE; pace++) {
            men.pace[m] = pace;
            best.offer(pace, allHarm());
        }
        men.pace[m] = was;
        return best.which;
    }

    public long next(int m, int h, int what) {
        if (!men.has(m) || !dike.hasHour(h) || h == 0 || !within(what, 0, 1)) {
            return NO;
        }
        walk.go();
        int from = walk.placeOf(m, h - 1);
        walk.put = m;
        walk.putHour = h;
        best.begin(BEYOND);
        for (int p = 0; p < dike.pieces; p++) {
            if (Math.abs(p - from) <= men.pace[m]) {
                walk.putPiece = p;
                best.offer(p, allHarm());
            }
        }
        walk.put = -1;
        return what == 0 ? best.which : best.least;
    }

    public int spare() {
        best.begin(BEYOND);
        for (int m = 0; m < men.count; m++) {
            walk.blind = m;
            best.offer(m, allHarm());
        }
        walk.blind = -1;
        return best.which;
    }

    // ---- told ways, sleepers

    public int judge(int s, int v) {
        if (!sheets.has(s) || !within(v, 1, MOST_PACE)) {
            return BAD;
        }
        if (sheets.sort[s] == MISSING) {
            return NOTHING;
        }
        if (sheets.size[s] != dike.night[HOURS]) {
            return BAD;
        }
        for (int h = 0; h < dike.night[HOURS]; h++) {
            int p = sheets.at(s, h);
            if (!dike.has(p) || h > 0 && Math.abs(p - sheets.at(s, h - 1)) > v) {
                return h;
            }
        }
        return -1;
    }

    public int sure(int n) {
        if (!within(n, 0, MOST_HOURS)) {
            return BAD;
        }
        walk.go();
        for (int p = 0; p < dike.pieces; p++) {
            if (longestNotLookedAt(p) > n) {
                return 0;
            }
        }
        return 1;
    }

    public int fewest(int n) {
        if (!within(n, 0, MOST_HOURS)) {
            return BAD;
        }
        int length = 1;
        for (int l = 2; 2 * l - 3 <= n; l++) {
            length = l;
        }
        int whole = dike.pieces / length;
        return whole * length < dike.pieces ? whole + 1 : whole;
    }

    public int check(int m) {
        if (!men.has(m)) {
            return NO_SUCH;
        }
        walk.go();
        for (int h = 0; h < dike.night[HOURS]; h++) {
            for (int other = 0; other < men.count; other++) {
                if (!men.awake(m, h) && men.awake(other, h) && walk.together(m, other, h)) {
                    return h;
                }
            }
        }
        return -1;
    }

    // ---- the village, years

    public int call(int h) {
        if (!within(h, -1, MOST_HOURS - 1)) {
            return BAD;
        }
        int was = dike.called;
        dike.called = h;
        return was;
    }

    public long village(int h) {
        if (!within(h, -1, MOST_HOURS - 1)) {
            return NO;
        }
        int was = dike.called;
        dike.called = h;
        long all = allHarm();
        dike.called = was;
        return all;
    }

    public int callWhen(int cost) {
        if (!within(cost, 0, MOST_COUNT)) {
            return BAD;
        }
        int was = dike.called;
        dike.called = -1;
        best.begin(allHarm());
        for (int h = 0; h < dike.night[HOURS]; h++) {
            dike.called = h;
            best.offer(h, allHarm() + cost * WHOLE);
        }
        dike.called = was;
        return best.which;
    }

    public int trusts(int h, int cost) {
        if (!dike.hasHour(h) || !within(cost, 0, MOST_COUNT)) {
            return BAD;
        }
        int called = dike.called;
        int trust = dike.night[TRUST];
        dike.called = -1;
        long uncalled = allHarm();
        dike.called = h;
        int fewer = -1;
        for (int n = 0; n <= trust && fewer < 0; n++) {
            dike.night[TRUST] = trust - n;
            if (uncalled - allHarm() <= cost * WHOLE) {
                fewer = n;
            }
        }
        dike.called = called;
        dike.night[TRUST] = trust;
        return fewer > 0 ? fewer : -1;
    }

    public int places(int s) {
        int refusal = rowRefused(s, dike.pieces, MOST_COUNT);
        return refusal != 0 ? refusal : holedOften(s);
    }

    public int learn(int s) {
        int refusal = rowRefused(s, dike.pieces, MOST_COUNT);
        if (refusal != 0) {
            return refusal;
        }
        int bits = holedOften(s);
        int otherwise = 0;
        for (int p = 0; p < dike.pieces; p++) {
            int old = bits >> p & 1;
            otherwise += old != dike.old[p] ? 1 : 0;
            dike.old[p] = old;
        }
        chances.forget();
        return otherwise;
    }

    public long drawn(int seed, int what) {
        if (!within(seed, 0, MOST_SEED) || !within(what, 0, 2)) {
            return NO;
        }
        walk.go();
        drawing.go(seed);
        return what == 0 ? drawing.harm : what == 1 ? drawing.broke : drawing.found;
    }

    public int image() {
        kept.dike.pieces = dike.pieces;
        kept.dike.become(dike, dike.pieces);
        System.arraycopy(men.pace, 0, kept.pace, 0, MOST_MEN);
        kept.men = men.count;
        kept.law = texts.law;
        kept.is = true;
        return dike.pieces;
    }

    public int back() {
        if (!kept.is) {
            return STATE;
        }
        dike.become(kept.dike, kept.dike.pieces);
        System.arraycopy(kept.pace, 0, men.pace, 0, kept.men);
        texts.law = kept.law;
        chances.forget();
        return dike.pieces;
    }

    // ---- the host

    public int sheet(int s, int sort, int n) {
        if (!sheets.has(s) || !within(sort, MISSING, INTS) || sort != MISSING && n > MOST_CELLS) {
            return BAD;
        }
        if (sort != MISSING && n < 0) {
            return BELOW;
        }
        sheets.renew(s, sort, sort == MISSING ? 0 : n);
        return 1;
    }

    public int cell(int s, int i, int v) {
        if (!sheets.has(s)) {
            return BAD;
        }
        if (sheets.sort[s] == MISSING) {
            return NOTHING;
        }
        if (!sheets.holds(s, i)) {
            return OUTSIDE;
        }
        int sort = sheets.sort[s];
        sheets.cells[s * MOST_CELLS + i] = sort == BYTES ? (byte) v : sort == SHORTS ? (short) v : v;
        return 1;
    }

    public int copy(int s, int i, int other, int j, int n) {
        if (!sheets.has(s) || !sheets.has(other)) {
            return BAD;
        }
        if (sheets.sort[s] == MISSING || sheets.sort[other] == MISSING) {
            return NOTHING;
        }
        if (sheets.sort[s] != sheets.sort[other]) {
            return UNLIKE;
        }
        if (n < 0 || i < 0 || j < 0 || i > sheets.size[s] - n || j > sheets.size[other] - n) {
            return OUTSIDE;
        }
        System.arraycopy(sheets.cells, s * MOST_CELLS + i, sheets.cells, other * MOST_CELLS + j, n);
        return n;
    }

    public int piecesBy(int s, int sort, int at, int n) {
        if (!sheets.has(s) || !within(sort, BYTES, INTS) || !within(n, 0, MOST_PIECES)) {
            return BAD;
        }
        if (sheets.sort[s] == MISSING) {
            return NOTHING;
        }
        if (sheets.sort[s] != sort) {
            return UNLIKE;
        }
        int came = 0;
        for (int k = 0; k < n; k++) {
            int i = at + 2 * k;
            if (!sheets.holds(s, i) || !sheets.holds(s, i + 1)) {
                return OUTSIDE;
            }
            came += piece(sheets.at(s, i), sheets.at(s, i + 1)) >= 0 ? 1 : 0;
        }
        return came;
    }

    public int taken(int i, int kind) {
        if (!within(kind, ROUND, A_PIECE)) {
            return BAD;
        }
        if (!within(i, 0, MOST_PIECES + MOST_MEN - 1)) {
            return OUTSIDE;
        }
        int m = i - MOST_PIECES;
        if (!dike.has(i) && !men.has(m)) {
            return NOTHING;
        }
        if (dike.has(i)) {
            return kind == A_PIECE ? dike.worth[i] : UNLIKE;
        }
        return men.hasOf(m, kind) ? m : UNLIKE;
    }

    // ---- what several of them need

    private static boolean within(int v, int least, int most) {
        return v >= least && v <= most;
    }

    /** ALL HARM as all stands now, with what is tried just then. */
    private long allHarm() {
        walk.go();
        long all = 0;
        for (int p = 0; p < dike.pieces; p++) {
            reckoning.reckon(p, dike.night[HOURS]);
            all += reckoning.harm;
        }
        return all;
    }

    private int hoursLookedAt(int p) {
        int hours = 0;
        for (int h = 0; h < dike.night[HOURS]; h++) {
            hours += walk.lookedAt(p, h) ? 1 : 0;
        }
        return hours;
    }

    private int longestNotLookedAt(int p) {
        int longest = 0;
        int row = 0;
        for (int h = 0; h < dike.night[HOURS]; h++) {
            row = walk.lookedAt(p, h) ? 0 : row + 1;
            longest = Math.max(longest, row);
        }
        return longest;
    }

    /** Why a SHEET is no row of so many numbers 0 .. most; 0, if it is one. */
    private int rowRefused(int s, int size, int most) {
        if (!sheets.has(s)) {
            return BAD;
        }
        if (sheets.sort[s] == MISSING) {
            return NOTHING;
        }
        if (sheets.size[s] != size) {
            return BAD;
        }
        for (int i = 0; i < size; i++) {
            if (!within(sheets.at(s, i), 0, most)) {
                return BAD;
            }
        }
        return 0;
    }

    private int holedOften(int s) {
        int all = 0;
        for (int p = 0; p < dike.pieces; p++) {
            all += sheets.at(s, p);
        }
        int bits = 0;
        for (int p = 0; p < dike.pieces; p++) {
            // Times the PIECES on both sides: the mean itself would be cut.
            bits |= sheets.at(s, p) * dike.pieces > 2 * all ? 1 << p : 0;
        }
        return bits;
    }

    /** The PIECES with all that is theirs, and the night's numbers. */
    private static final class Dike {
        final int[] old = new int[MOST_PIECES];
        final int[] worth = new int[MOST_PIECES];
        final int[] sacks = new int[MOST_PIECES];
        final int[] lamp = new int[MOST_PIECES];
        int pieces = 0;
        final int[] night = {8, 4, 0, 4, 2};
        final int[] water = new int[MOST_HOURS];
        int called = -1;

        boolean has(int p) {
            return p >= 0 && p < pieces && p < MOST_PIECES;
        }

        boolean hasHour(int h) {
            return h >= 0 && h < night[HOURS] && h < MOST_HOURS;
        }

        int add(int newOld, int newWorth) {
            int p = pieces;
            old[p] = newOld;
            worth[p] = newWorth;
            pieces++;
            return p;
        }

        boolean villageAt(int p, int h) {
            return called >= 0 && p < night[TRUST] && h >= called + night[COMES];
        }

        /** Takes all from another, but of PIECES the first ones alone. */
        void become(Dike other, int first) {
            System.arraycopy(other.old, 0, old, 0, first);
            System.arraycopy(other.worth, 0, worth, 0, first);
            System.arraycopy(other.sacks, 0, sacks, 0, first);
            System.arraycopy(other.lamp, 0, lamp, 0, first);
            System.arraycopy(other.night, 0, night, 0, NUMBERS_OF_NIGHT);
            System.arraycopy(other.water, 0, water, 0, MOST_HOURS);
            called = other.called;
        }
    }

    private static final class Men {
        final int[] kind = new int[MOST_MEN];
        final int[] post = new int[MOST_MEN];
        final int[] end = new int[MOST_MEN];
        final int[] pace = new int[MOST_MEN];
        final int[] more = new int[MOST_MEN];
        final int[] told = new int[MOST_MEN * MOST_HOURS];
        int count = 0;

        boolean has(int m) {
            return m >= 0 && m < count && m < MOST_MEN;
        }

        int add(int newKind, int ends, int rest) {
            int m = count;
            kind[m] = newKind;
            post[m] = ends / 10;
            end[m] = ends % 10;
            pace[m] = rest / 10;
            more[m] = rest % 10;
            count++;
            return m;
        }

        boolean awake(int m, int h) {
            int cycle = more[m] + 2;
            return kind[m] != SLEEPER || cycle <= 0 || h % cycle != more[m] + 1;
        }

        /** Whether a MAN's ROUND is of a KIND, or of one that is one. */
        boolean hasOf(int m, int wanted) {
            boolean even = kind[m] == EVEN || kind[m] == PAIR || kind[m] == SLEEPER;
            return wanted == ROUND || wanted == kind[m] || wanted == EVEN && even;
        }
    }

    /** What was read of each TEXT, as codes in the order in which they are done. */
    private static final class Texts {
        final int[] code = new int[MOST_TEXTS * MOST_TAPE];
        final int[] ends = new int[MOST_TEXTS * THINGS];
        int count = 0;
        int law = 0;
        private final int[] stack = new int[MOST_TAPE];

        /** What THE LAW tells of one of the three things, by the NAMES' numbers. */
        int valueOf(int thing, int[] names) {
            int slot = law * THINGS + thing;
            int from = thing == 0 ? law * MOST_TAPE : ends[slot - 1];
            int to = ends[slot];
            int top = 0;
            for (int i = from; i < to; i++) {
                int c = code[i];
                if (c > DO_NOT) {
                    if (top < stack.length) {
                        stack[top] = c >= 0 ? c : names[-1 - c];
                        top++;
                    }
                } else if (c > DO_OR) {
                    if (top > 0) {
                        stack[top - 1] = c == DO_NEGATE ? -stack[top - 1] : truth(stack[top - 1] == 0);
                    }
                } else if (top > 1) {
                    top--;
                    stack[top - 1] = joined(c, stack[top - 1], stack[top]);
                }
            }
            return top > 0 ? stack[top - 1] : 0;
        }

        private static int joined(int c, int a, int b) {
            switch (c) {
                case DO_OR: return a != 0 || b != 0 ? 1 : 0;
                case DO_AND: return a != 0 && b != 0 ? 1 : 0;
                case DO_LESS: return a < b ? 1 : 0;
                case DO_EQUAL: return a == b ? 1 : 0;
                case DO_PLUS: return a + b;
                case DO_MINUS: return a - b;
                default: return a * b;
            }
        }

        private static int truth(boolean is) {
            return is ? 1 : 0;
        }
    }

    /** THE TAPE, read into the codes of the next TEXT; each part tells whether it stood there. */
    private static final class Tape {
        private final Texts texts;
        private final int[] bytes = new int[MOST_TAPE];
        int size = 0;
        private int token;
        private int number;
        private int place;
        private int behind;
        private int done;

        Tape(Texts texts) {
            this.texts = texts;
        }

        void add(int b) {
            if (size < MOST_TAPE) {
                bytes[size] = b;
                size++;
            }
        }

        /** The byte at a place; -1 where there is none. */
        private int at(int i) {
            return i >= 0 && i < size && i < MOST_TAPE ? bytes[i] : -1;
        }

        /** The new TEXT's number, or what tells its FAULT. */
        int read() {
            if (texts.count >= MOST_TEXTS) {
                return FULL;
            }
            behind = 0;
            done = texts.count * MOST_TAPE;
            advance();
            for (int thing = 0; thing < THINGS; thing++) {
                if (token != KEY_OF_RISK + thing) {
                    return FAULT - place;
                }
                advance();
                if (!either(0) || token != ';') {
                    return FAULT - place;
                }
                texts.ends[texts.count * THINGS + thing] = done;
                advance();
            }
            if (token != THE_END) {
                return FAULT - place;
            }
            texts.count++;
            return texts.count - 1;
        }

        private boolean either(int open) {
            boolean stands = both(open);
            for (int i = 0; i < MOST_TAPE && stands && token == OR; i++) {
                advance();
                stands = both(open);
                put(DO_OR);
            }
            return stands;
        }

        private boolean both(int open) {
            boolean stands = negation(open);
            for (int i = 0; i < MOST_TAPE && stands && token == AND; i++) {
                advance();
                stands = negation(open);
                put(DO_AND);
            }
            return stands;
        }

        private boolean negation(int open) {
            if (token != NOT) {
                return comparison(open);
            }
            if (open >= MOST_OPEN) {
                return false;
            }
            advance();
            boolean stands = negation(open + 1);
            put(DO_NOT);
            return stands;
        }

        private boolean comparison(int open) {
            boolean stands = sum(open);
            if (stands && (token == '<' || token == '=')) {
                int c = token == '<' ? DO_LESS : DO_EQUAL;
                advance();
                stands = sum(open);
                put(c);
            }
            return stands;
        }

        private boolean sum(int open) {
            boolean stands = term(open);
            for (int i = 0; i < MOST_TAPE && stands && (token == '+' || token == '-'); i++) {
                int c = token == '+' ? DO_PLUS : DO_MINUS;
                advance();
                stands = term(open);
                put(c);
            }
            return stands;
        }

        private boolean term(int open) {
            boolean stands = one(open);
            for (int i = 0; i < MOST_TAPE && stands && token == '*'; i++) {
                advance();
                stands = one(open);
                put(DO_TIMES);
            }
            return stands;
        }

        private boolean one(int open) {
            if (token >= NUMBER && token <= NAMES) {
                put(token == NUMBER ? number : -token);
                advance();
                return true;
            }
            if (token != '-' && token != '(' || open >= MOST_OPEN) {
                return false;
            }
            boolean negates = token == '-';
            advance();
            if (negates) {
                boolean stands = one(open + 1);
                put(DO_NEGATE);
                return stands;
            }
            if (!either(open + 1) || token != ')') {
                return false;
            }
            advance();
            return true;
        }

        private void put(int c) {
            if (done >= 0 && done < texts.code.length && done < (texts.count + 1) * MOST_TAPE) {
                texts.code[done] = c;
                done++;
            }
        }

        /** Goes on to the next TOKEN: what it is, where it begins and what stands behind it. */
        private void advance() {
            place = behind;
            while (place < size && (at(place) == ' ' || at(place) == '\n')) {
                place++;
            }
            behind = place + 1;
            int b = at(place);
            if (isLetter(b)) {
                while (behind < size && isLetter(at(behind))) {
                    behind++;
                }
                token = wordToken();
            } else if (isDigit(b)) {
                token = numberToken();
            } else {
                token = b < 0 ? THE_END : isSign(b) ? b : NO_TOKEN;
            }
        }

        private int numberToken() {
            number = at(place) - '0';
            while (behind < size && isDigit(at(behind))) {
                number = number * 10 + at(behind) - '0';
                behind++;
            }
            return behind - place > MOST_DIGITS ? NO_TOKEN : NUMBER;
        }

        private int wordToken() {
            int word = 1;
            int i = place;
            boolean same = true;
            for (int k = 0; k < WORDS.length(); k++) {
                if (WORDS.charAt(k) != ' ') {
                    same = same && i < behind && at(i) == WORDS.charAt(k);
                    i++;
                } else if (same && i == behind) {
                    return word;
                } else {
                    word++;
                    i = place;
                    same = true;
                }
            }
            return NO_TOKEN;
        }

        private static boolean isLetter(int b) {
            return b >= 'a' && b <= 'z';
        }

        private static boolean isDigit(int b) {
            return b >= '0' && b <= '9';
        }

        private static boolean isSign(int b) {
            return b == '(' || b == ')' || b == ';' || b == '+' || b == '-' || b == '*' || b == '<' || b == '=';
        }
    }

    /** RISK, SEEN and HARM by THE LAW; what it told once is kept until something is changed. */
    private static final class Chances {
        private static final int KEPT = 1024;
        // RISK and HARM have a row each, SEEN has one of each PACE behind them.
        private static final int ROWS = THINGS + MOST_PACE + 1;
        private final Dike dike;
        private final Texts texts;
        private final int[] names = new int[NAMES];
        private final int[] known = new int[ROWS * MOST_PIECES * MOST_HOURS * (MOST_STEP + 1)];
        private int age = 1;

        Chances(Dike dike, Texts texts) {
            this.dike = dike;
            this.texts = texts;
        }

        void forget() {
            age++;
        }

        int ask(int thing, int p, int h, int step, int pace) {
            if (thing < 0 || thing >= THINGS || !dike.has(p) || h < 0 || h >= MOST_HOURS
                    || step < 0 || step > MOST_STEP || pace < 0 || pace > MOST_PACE) {
                return 0;
            }
            int is = thing == HARM ? Math.max(0, step - dike.sacks[p]) : step;
            int by = thing == SEEN ? pace : 0;
            int row = thing == SEEN ? THINGS + pace : thing;
            int i = ((row * MOST_PIECES + p) * MOST_HOURS + h) * (MOST_STEP + 1) + is;
            if (known[i] / KEPT != age) {
                names[0] = dike.water[h];
                names[1] = dike.old[p];
                names[2] = dike.night[WIND];
                names[3] = is;
                names[4] = dike.worth[p];
                names[5] = by;
                int told = texts.valueOf(thing, names);
                known[i] = age * KEPT + Math.max(0, Math.min(told, MOST_OF_THING[thing]));
            }
            return known[i] % KEPT;
        }
    }

    /** Where MEN are and who looks where in each hour of the night. */
    private static final class Walk {
        private final Dike dike;
        private final Men men;
        private final Chances chances;
        /** By hours, then by MEN. */
        private final int[] place = new int[MOST_HOURS * MOST_MEN];
        /** By hours, then by PIECES: who looks there, as bits. */
        private final int[] lookers = new int[MOST_HOURS * MOST_PIECES];
        private final int[] since = new int[MOST_HOURS * MOST_PIECES];
        private final boolean[] isBack = new boolean[MOST_MEN];

        // What is tried: a MAN who never LOOKS, one who is put somewhere, ONE MORE LOOK; -1: not.
        int blind = -1;
        int put = -1;
        int putHour = -1;
        int putPiece = -1;
        int morePiece = -1;
        int moreHour = -1;

        Walk(Dike dike, Men men, Chances chances) {
            this.dike = dike;
            this.men = men;
            this.chances = chances;
        }

        boolean lookedAt(int p, int h) {
            return lookers[h * MOST_PIECES + p] != 0;
        }

        boolean looksAt(int who, int p, int h) {
            return (lookers[h * MOST_PIECES + p] >> who & 1) != 0;
        }

        int paceOf(int who) {
            return men.has(who) ? men.pace[who] : who == ONE_MORE ? 1 : 0;
        }

        int sinceOf(int p, int h) {
            return since[h * MOST_PIECES + p];
        }

        int placeOf(int m, int h) {
            return place[h * MOST_MEN + m];
        }

        boolean together(int a, int b, int h) {
            return placeOf(a, h) == placeOf(b, h);
        }

        void go() {
            for (int h = 0; h < dike.night[HOURS]; h++) {
                for (int p = 0; p < dike.pieces; p++) {
                    int i = h * MOST_PIECES + p;
                    since[i] = h == 0 || lookedAt(p, h - 1) ? 1 : since[i - MOST_PIECES] + 1;
                    lookers[i] = othersAt(p, h);
                }
                for (int m = 0; m < men.count; m++) {
                    int is = comes(m, h);
                    place[h * MOST_MEN + m] = is;
                    isBack[m] = is != men.post[m] && (is == men.end[m] || h > 0 && isBack[m]);
                    if (m != blind && men.awake(m, h)) {
                        lookers[h * MOST_PIECES + is] |= 1 << m;
                    }
                }
            }
        }

        private int othersAt(int p, int h) {
            int who = dike.villageAt(p, h) ? 1 << VILLAGE : 0;
            who |= dike.lamp[p] != 0 ? 1 << LAMP : 0;
            return p == morePiece && h == moreHour ? who | 1 << ONE_MORE : who;
        }

        private int comes(int m, int h) {
            if (m == put && h == putHour) {
                return putPiece;
            }
            if (h == 0) {
                return men.kind[m] == PAIR ? men.end[m] : men.post[m];
            }
            int from = placeOf(m, h - 1);
            switch (men.kind[m]) {
                case EVEN:
                case PAIR:
                    return towards(m, from, isBack[m] ? men.post[m] : men.end[m]);
                case SLEEPER:
                    return men.awake(m, h) ? towards(m, from, isBack[m] ? men.post[m] : men.end[m]) : from;
                case RISKY:
                    return riskiest(m, h, from);
                case TOLD:
                    int told = men.told[m * MOST_HOURS + h];
                    return towards(m, from, dike.has(told) ? told : men.post[m]);
                default:
                    return towards(m, from, men.post[m]);
            }
        }

        private int towards(int m, int from, int to) {
            return from < to ? Math.min(to, from + men.pace[m]) : Math.max(to, from - men.pace[m]);
        }

        private int riskiest(int m, int h, int from) {
            int best = from;
            int most = -1;
            for (int p = 0; p < dike.pieces; p++) {
                if (Math.abs(p - from) <= men.pace[m]) {
                    int since = sinceOf(p, h);
                    int is = since * chances.ask(RISK, p, h, since, 0);
                    if (is > most || is == most && p == from) {
                        best = p;
                        most = is;
                    }
                }
            }
            return best;
        }
    }

    /** A night of one PIECE in PARTS. */
    private static final class Reckoning {
        private final Dike dike;
        private final Walk walk;
        private final Chances chances;
        /** By steps: 0 have no hole, BREAKS are broken. */
        final long[] parts = new long[MOST_BREAKS + 1];
        long harm;
        private long found;

        Reckoning(Dike dike, Walk walk, Chances chances) {
            this.dike = dike;
            this.walk = walk;
            this.chances = chances;
        }

        long told(int what) {
            return what == 0 ? harm : what == 1 ? parts[dike.night[BREAKS]] : found;
        }

        void reckon(int p, int hours) {
            Arrays.fill(parts, 0L);
            parts[0] = WHOLE;
            harm = 0;
            found = 0;
            for (int h = 0; h < hours; h++) {
                grow(p, h);
                for (int who = 0; who < LOOKERS && walk.lookedAt(p, h); who++) {
                    if (walk.looksAt(who, p, h)) {
                        look(p, h, walk.paceOf(who));
                    }
                }
            }
        }

        private void grow(int p, int h) {
            int breaks = dike.night[BREAKS];
            long breaking = parts[breaks - 1];
            parts[breaks] += breaking;
            harm += breaking * chances.ask(HARM, p, h, breaks, 0);
            for (int step = breaks - 1; step > 1; step--) {
                parts[step] = parts[step - 1];
            }
            parts[1] = parts[0] * chances.ask(RISK, p, h, walk.sinceOf(p, h), 0) / 1000;
            parts[0] -= parts[1];
        }

        private void look(int p, int h, int pace) {
            for (int step = 1; step < dike.night[BREAKS]; step++) {
                long seen = parts[step] * chances.ask(SEEN, p, h, step, pace) / 100;
                parts[step] -= seen;
                parts[0] += seen;
                found += seen;
                harm += seen * chances.ask(HARM, p, h, step, 0);
            }
        }
    }

    /** A night of all PIECES by LOTS. */
    private static final class Drawing {
        private final Dike dike;
        private final Walk walk;
        private final Chances chances;
        /** Of each PIECE the step of its hole: 0 none, BREAKS broken. */
        private final int[] hole = new int[MOST_PIECES];
        private long lot;
        long harm;
        int broke;
        int found;

        Drawing(Dike dike, Walk walk, Chances chances) {
            this.dike = dike;
            this.walk = walk;
            this.chances = chances;
        }

        void go(int seed) {
            Arrays.fill(hole, 0);
            lot = seed + 1L;
            harm = 0;
            broke = 0;
            found = 0;
            for (int h = 0; h < dike.night[HOURS]; h++) {
                for (int p = 0; p < dike.pieces; p++) {
                    if (hole[p] < dike.night[BREAKS]) {
                        grow(p, h);
                        for (int who = 0; who < LOOKERS; who++) {
                            look(p, h, who);
                        }
                    }
                }
            }
        }

        private void grow(int p, int h) {
            if (hole[p] == 0) {
                hole[p] = nextLot() % 1000 < chances.ask(RISK, p, h, walk.sinceOf(p, h), 0) ? 1 : 0;
                return;
            }
            hole[p]++;
            if (hole[p] == dike.night[BREAKS]) {
                broke++;
                harm += chances.ask(HARM, p, h, hole[p], 0);
            }
        }

        private void look(int p, int h, int who) {
            if (!walk.looksAt(who, p, h) || hole[p] == 0 || hole[p] == dike.night[BREAKS]) {
                return;
            }
            if (nextLot() % 100 < chances.ask(SEEN, p, h, hole[p], walk.paceOf(who))) {
                found++;
                harm += chances.ask(HARM, p, h, hole[p], 0);
                hole[p] = 0;
            }
        }

        private long nextLot() {
            lot = lot * 48271 % 2147483647;
            return lot;
        }
    }

    private static final class Sheets {
        final int[] sort = {MISSING, MISSING, MISSING, MISSING};
        final int[] size = new int[SHEETS];
        final int[] cells = new int[SHEETS * MOST_CELLS];

        boolean has(int s) {
            return s >= 0 && s < SHEETS;
        }

        boolean holds(int s, int i) {
            return has(s) && i >= 0 && i < size[s];
        }

        /** A number of a SHEET; 0 outside, where the callers have refused already. */
        int at(int s, int i) {
            return holds(s, i) ? cells[s * MOST_CELLS + i] : 0;
        }

        void renew(int s, int newSort, int n) {
            sort[s] = newSort;
            size[s] = n;
            for (int i = 0; i < MOST_CELLS; i++) {
                cells[s * MOST_CELLS + i] = 0;
            }
        }
    }

    private static final class Image {
        final Dike dike = new Dike();
        final int[] pace = new int[MOST_MEN];
        int men = 0;
        int law = 0;
        boolean is = false;
    }

    /** The least of what is offered, if less than a bound; of like ones the first. */
    private static final class Best {
        int which = -1;
        long least = 0;

        void begin(long bound) {
            which = -1;
            least = bound;
        }

        void offer(int one, long all) {
            if (all < least) {
                least = all;
                which = one;
            }
        }
    }
}
