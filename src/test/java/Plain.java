import java.util.ArrayList;
import java.util.Arrays;
import java.util.List;

/**
 * The document once more, in the plainest way: copies of the whole instead of changes that are taken
 * back, TEXTS asked anew each time. RandomTest holds the class against it.
 */
final class Plain {
    static final long NO = WalkTheDike.NO;
    private static final int NONE = -1, BAD = -2, STATE = -3, FULL = -4;
    private static final int[] LOW = {1, 2, 0, 0, 0};
    private static final int[] HIGH = {12, 6, 9, 8, 12};

    private static final class Piece {
        int old, worth, sacks;
        boolean lamp;
    }

    private static final class Man {
        int kind, post, end, pace, more;
        int[] told = new int[12];
        // what is tried
        boolean neverLooks;
        int putHour = -1, putPiece;
    }

    private static final class Look {
        final int pace;

        Look(int pace) {
            this.pace = pace;
        }
    }

    /** A read E: an operation on parts, a number, or a name. */
    private static final class E {
        final String what;
        final E a, b;
        final int number;

        E(String what, E a, E b, int number) {
            this.what = what;
            this.a = a;
            this.b = b;
            this.number = number;
        }
    }

    private static final class Fault extends Exception {
        private static final long serialVersionUID = 1L;
        final int place;

        Fault(int place) {
            this.place = place;
        }
    }

    private int[] night = {8, 4, 0, 4, 2};
    private int[] water = new int[12];
    private int called = -1;
    private List<Piece> pieces = new ArrayList<>();
    private List<Man> men = new ArrayList<>();
    private int extraPiece = -1, extraHour = -1;
    private List<E[]> texts = new ArrayList<>();
    private int law = 0;
    private String tape = "";
    private long[][] sheets = new long[4][];
    private int[] sorts = new int[4];
    private Plain image = null;

    Plain() {
        tape = "risk water * 4 + old * 20 + step ; seen 30 + step * 15 - pace * 10 ; harm step * worth ;";
        text();
    }

    private Plain copyOfAll() {
        Plain c = new Plain();
        c.night = night.clone();
        c.water = water.clone();
        c.called = called;
        for (Piece p : pieces) {
            Piece q = new Piece();
            q.old = p.old;
            q.worth = p.worth;
            q.sacks = p.sacks;
            q.lamp = p.lamp;
            c.pieces.add(q);
        }
        for (Man m : men) {
            Man n = new Man();
            n.kind = m.kind;
            n.post = m.post;
            n.end = m.end;
            n.pace = m.pace;
            n.more = m.more;
            n.told = m.told.clone();
            c.men.add(n);
        }
        c.texts = new ArrayList<>(texts);
        c.law = law;
        return c;
    }

    private boolean isPiece(int p) {
        return 0 <= p && p < pieces.size();
    }

    private boolean isMan(int m) {
        return 0 <= m && m < men.size();
    }

    private boolean isHour(int h) {
        return 0 <= h && h < night[0];
    }

    // ---- reading

    private static String tokenAt(String s, int i) {
        int j = i;
        char c = s.charAt(i);
        if (c >= 'a' && c <= 'z') {
            while (j < s.length() && s.charAt(j) >= 'a' && s.charAt(j) <= 'z') {
                j++;
            }
        } else if (c >= '0' && c <= '9') {
            while (j < s.length() && s.charAt(j) >= '0' && s.charAt(j) <= '9') {
                j++;
            }
        } else {
            j++;
        }
        return s.substring(i, j);
    }

    private final class Reading {
        final List<String> tokens = new ArrayList<>();
        final List<Integer> places = new ArrayList<>();
        int at = 0;

        Reading(String s) {
            for (int i = 0; i < s.length();) {
                if (s.charAt(i) == 32 || s.charAt(i) == 10) {
                    i++;
                    continue;
                }
                String t = tokenAt(s, i);
                tokens.add(t);
                places.add(i);
                i += t.length();
            }
            tokens.add("");
            places.add(s.length());
        }

        String token() {
            return tokens.get(at);
        }

        Fault fault() {
            return new Fault(places.get(at));
        }

        void want(String t) throws Fault {
            if (!token().equals(t)) {
                throw fault();
            }
            at++;
        }

        E[] text() throws Fault {
            E[] es = new E[3];
            String[] heads = {"risk", "seen", "harm"};
            for (int i = 0; i < 3; i++) {
                want(heads[i]);
                es[i] = e(0, 0);
                want(";");
            }
            want("");
            return es;
        }

        /** Level 0 or, 1 and, 2 not, 3 < =, 4 + -, 5 *, 6 one. */
        E e(int level, int open) throws Fault {
            if (level == 2) {
                if (!token().equals("not")) {
                    return e(3, open);
                }
                if (open == 5) {
                    throw fault();
                }
                at++;
                return new E("not", e(2, open + 1), null, 0);
            }
            if (level == 6) {
                return one(open);
            }
            List<String> joins = List.of(
                List.of("or"), List.of("and"), List.<String>of(), List.of("<", "="), List.of("+", "-"), List.of("*"))
                .get(level);
            E left = e(level + 1, open);
            while (joins.contains(token())) {
                String join = token();
                at++;
                left = new E(join, left, e(level + 1, open), 0);
                if (level == 3) {
                    break;
                }
            }
            return left;
        }

        E one(int open) throws Fault {
            String t = token();
            if (t.matches("[0-9]{1,4}")) {
                at++;
                return new E("number", null, null, Integer.parseInt(t));
            }
            if (List.of("water", "old", "wind", "step", "worth", "pace").contains(t)) {
                at++;
                return new E(t, null, null, 0);
            }
            if ((t.equals("-") || t.equals("(")) && open < 5) {
                at++;
                if (t.equals("-")) {
                    return new E("negate", one(open + 1), null, 0);
                }
                E in = e(0, open + 1);
                want(")");
                return in;
            }
            throw fault();
        }
    }

    private int value(E e, int p, int h, int step, int pace) {
        switch (e.what) {
            case "number": return e.number;
            case "water": return water[h];
            case "old": return pieces.get(p).old;
            case "wind": return night[2];
            case "step": return step;
            case "worth": return pieces.get(p).worth;
            case "pace": return pace;
            default: break;
        }
        int a = value(e.a, p, h, step, pace);
        if (e.what.equals("not")) {
            return a == 0 ? 1 : 0;
        }
        if (e.what.equals("negate")) {
            return -a;
        }
        int b = value(e.b, p, h, step, pace);
        switch (e.what) {
            case "or": return a != 0 || b != 0 ? 1 : 0;
            case "and": return a != 0 && b != 0 ? 1 : 0;
            case "<": return a < b ? 1 : 0;
            case "=": return a == b ? 1 : 0;
            case "+": return a + b;
            case "-": return a - b;
            default: return a * b;
        }
    }

    private static int bound(int v, int most) {
        return v < 0 ? 0 : v > most ? most : v;
    }

    private int risk(int p, int h, int since) {
        return bound(value(texts.get(law)[0], p, h, since, 0), 200);
    }

    private int seen(int p, int h, int step, int pace) {
        return bound(value(texts.get(law)[1], p, h, step, pace), 100);
    }

    private int harmOf(int p, int h, int step) {
        return bound(value(texts.get(law)[2], p, h, Math.max(0, step - pieces.get(p).sacks), 0), 999);
    }

    // ---- the walk

    private boolean villageAt(int p, int h) {
        return called != -1 && h >= called + night[4] && p < night[3];
    }

    private boolean awake(int m, int h) {
        Man man = men.get(m);
        return !(man.kind == 5 && h % (man.more + 2) == man.more + 1);
    }

    private static int towards(int from, int to, int pace) {
        int far = Math.min(Math.abs(to - from), pace);
        return to < from ? from - far : from + far;
    }

    /** Where each man is in each hour up to one. */
    private int[][] walk() {
        int[][] at = new int[night[0]][men.size()];
        boolean[] back = new boolean[men.size()];
        for (int h = 0; h < night[0]; h++) {
            for (int m = 0; m < men.size(); m++) {
                Man man = men.get(m);
                at[h][m] = man.putHour == h ? man.putPiece : h == 0 ? man.kind == 4 ? man.end : man.post
                    : goes(at, h, m, back[m]);
                if (at[h][m] == man.end) {
                    back[m] = true;
                }
                if (at[h][m] == man.post) {
                    back[m] = false;
                }
            }
        }
        return at;
    }

    private int goes(int[][] at, int h, int m, boolean back) {
        Man man = men.get(m);
        int from = at[h - 1][m];
        if (man.kind == 1 || man.kind == 4 || man.kind == 5) {
            return awake(m, h) ? towards(from, back ? man.post : man.end, man.pace) : from;
        }
        if (man.kind == 3) {
            return towards(from, isPiece(man.told[h]) ? man.told[h] : man.post, man.pace);
        }
        if (man.kind == 0) {
            return towards(from, man.post, man.pace);
        }
        int most = 0;
        for (int p = 0; p < pieces.size(); p++) {
            if (Math.abs(p - from) <= man.pace) {
                most = Math.max(most, dread(at, p, h));
            }
        }
        if (dread(at, from, h) == most) {
            return from;
        }
        int p = 0;
        while (Math.abs(p - from) > man.pace || dread(at, p, h) != most) {
            p++;
        }
        return p;
    }

    private int dread(int[][] at, int p, int h) {
        int since = since(at, p, h);
        return since * risk(p, h, since);
    }

    private int since(int[][] at, int p, int h) {
        int since = 1;
        for (int k = h - 1; k >= 0 && looks(at, p, k).isEmpty(); k--) {
            since++;
        }
        return since;
    }

    private List<Look> looks(int[][] at, int p, int h) {
        List<Look> looks = new ArrayList<>();
        for (int m = 0; m < men.size(); m++) {
            if (at[h][m] == p && awake(m, h) && !men.get(m).neverLooks) {
                looks.add(new Look(men.get(m).pace));
            }
        }
        if (villageAt(p, h)) {
            looks.add(new Look(0));
        }
        if (pieces.get(p).lamp) {
            looks.add(new Look(0));
        }
        if (p == extraPiece && h == extraHour) {
            looks.add(new Look(1));
        }
        return looks;
    }

    // ---- a night

    /** HARM, and PARTS found; then the PARTS by steps behind an hour. */
    private long[] reckoned(int p, int last) {
        int[][] at = walk();
        int breaks = night[1];
        long[] parts = new long[breaks + 1];
        parts[0] = 1000000000;
        long harm = 0;
        long found = 0;
        for (int h = 0; h <= last; h++) {
            long[] then = new long[breaks + 1];
            long begin = parts[0] * risk(p, h, since(at, p, h)) / 1000;
            then[0] = parts[0] - begin;
            then[1] = begin;
            for (int step = 2; step <= breaks; step++) {
                then[step] = parts[step - 1];
            }
            harm += then[breaks] * harmOf(p, h, breaks);
            then[breaks] += parts[breaks];
            for (Look look : looks(at, p, h)) {
                for (int step = 1; step < breaks; step++) {
                    long f = then[step] * seen(p, h, step, look.pace) / 100;
                    then[step] -= f;
                    then[0] += f;
                    found += f;
                    harm += f * harmOf(p, h, step);
                }
            }
            parts = then;
        }
        long[] all = new long[breaks + 3];
        all[0] = harm;
        all[1] = found;
        System.arraycopy(parts, 0, all, 2, breaks + 1);
        return all;
    }

    private long told(int p, int what) {
        long[] all = reckoned(p, night[0] - 1);
        return what == 0 ? all[0] : what == 1 ? all[all.length - 1] : all[1];
    }

    private long allHarm() {
        long all = 0;
        for (int p = 0; p < pieces.size(); p++) {
            all += told(p, 0);
        }
        return all;
    }

    // ---- the face

    int piece(int old, int v) {
        if (old < 0 || old > 1 || v < 0 || v > 99) {
            return BAD;
        }
        if (pieces.size() == 8) {
            return FULL;
        }
        Piece p = new Piece();
        p.old = old;
        p.worth = v;
        pieces.add(p);
        return pieces.size() - 1;
    }

    int set(int p, int what, int v) {
        if (!isPiece(p)) {
            return -5;
        }
        Piece q = pieces.get(p);
        int was;
        if (what == 0 && v >= 0 && v <= 1) {
            was = q.old;
            q.old = v;
        } else if (what == 1 && v >= 0 && v <= 99) {
            was = q.worth;
            q.worth = v;
        } else if (what == 2 && v >= 0 && v <= 3) {
            was = q.sacks;
            q.sacks = v;
        } else {
            was = -7;
        }
        return was;
    }

    int night(int what, int v) {
        if (what < 0 || what > 4) {
            return NONE;
        }
        if (v < LOW[what] || v > HIGH[what]) {
            return BAD;
        }
        int was = night[what];
        night[what] = v;
        return was;
    }

    int water(int h, int v) {
        if (h < 0 || h > 11) {
            return NONE;
        }
        if (v < 0 || v > 9) {
            return BAD;
        }
        int was = water[h];
        water[h] = v;
        return was;
    }

    int count(int what) {
        int[] all = {night[0], night[1], night[2], night[3], night[4], pieces.size(), men.size(), texts.size(), law,
            tape.length()};
        return what < 0 || what > 9 ? BAD : all[what];
    }

    int feed(long w, int n) {
        if (n < 1 || n > 8) {
            return BAD;
        }
        if (tape.length() + n > 160) {
            return FULL;
        }
        StringBuilder more = new StringBuilder();
        for (int i = 0; i < n; i++) {
            more.insert(0, (char) (w & 255));
            w >>>= 8;
        }
        tape += more;
        return tape.length();
    }

    int text() {
        if (texts.size() == 6) {
            return FULL;
        }
        String s = tape;
        tape = "";
        try {
            texts.add(new Reading(s).text());
            return texts.size() - 1;
        } catch (Fault f) {
            return -100 - f.place;
        }
    }

    int force(int t) {
        if (t < 0 || t >= texts.size()) {
            return BAD;
        }
        int was = law;
        law = t;
        return was;
    }

    int asks(int part, int p, int h, int step, int pace) {
        if (!isPiece(p)) {
            return -5;
        }
        if (part < 0 || part > 2 || h < 0 || h > 11 || step < 0 || step > 12 || pace < 0 || pace > 3) {
            return -7;
        }
        return part == 0 ? risk(p, h, step) : part == 1 ? seen(p, h, step, pace) : harmOf(p, h, step);
    }

    int man(int kind, int ends, int rest, int s) {
        if (kind < 0 || kind > 5 || ends < 0 || !isPiece(ends / 10) || !isPiece(ends % 10)) {
            return BAD;
        }
        if (rest < 10 || rest > 39 || rest % 10 > 5 || kind == 3 && (s < 0 || s > 3)) {
            return BAD;
        }
        Man man = new Man();
        if (kind == 3) {
            if (sheets[s] == null) {
                return -11;
            }
            if (sheets[s].length != 12 || !Arrays.stream(sheets[s]).allMatch(v -> v >= 0 && v <= 7)) {
                return BAD;
            }
            for (int h = 0; h < 12; h++) {
                man.told[h] = (int) sheets[s][h];
            }
        }
        if (men.size() == 5) {
            return FULL;
        }
        man.kind = kind;
        man.post = ends / 10;
        man.end = ends % 10;
        man.pace = rest / 10;
        man.more = rest % 10;
        men.add(man);
        return men.size() - 1;
    }

    int pace(int m, int v) {
        if (!isMan(m)) {
            return NONE;
        }
        if (v < 1 || v > 3) {
            return BAD;
        }
        int was = men.get(m).pace;
        men.get(m).pace = v;
        return was;
    }

    int manTold(int m, int what) {
        if (!isMan(m)) {
            return -5;
        }
        if (what < 0 || what > 16) {
            return -7;
        }
        Man man = men.get(m);
        int[] first = {man.kind, man.post, man.end, man.pace, man.more};
        return what < 5 ? first[what] : man.told[what - 5];
    }

    int where(int m, int h) {
        return !isMan(m) ? -5 : !isHour(h) ? -7 : walk()[h][m];
    }

    int looked(int h) {
        if (!isHour(h)) {
            return BAD;
        }
        int[][] at = walk();
        int bits = 0;
        for (int p = 0; p < pieces.size(); p++) {
            if (!looks(at, p, h).isEmpty()) {
                bits += 1 << p;
            }
        }
        return bits;
    }

    int often(int p, int what) {
        if (!isPiece(p)) {
            return -5;
        }
        if (what < 0 || what > 1) {
            return -7;
        }
        StringBuilder row = new StringBuilder();
        int[][] at = walk();
        for (int h = 0; h < night[0]; h++) {
            row.append(looks(at, p, h).isEmpty() ? '.' : 'x');
        }
        if (what == 0) {
            return row.toString().replace(".", "").length();
        }
        int longest = 0;
        for (String dots : row.toString().split("x")) {
            longest = Math.max(longest, dots.length());
        }
        return longest;
    }

    int meet(int a, int b) {
        if (!isMan(a) || !isMan(b) || a == b) {
            return -5;
        }
        int[][] at = walk();
        for (int h = 0; h < night[0]; h++) {
            if (at[h][a] == at[h][b]) {
                return h;
            }
        }
        return -1;
    }

    long run(int what) {
        if (what < 0 || what > 2) {
            return NO;
        }
        long all = 0;
        for (int p = 0; p < pieces.size(); p++) {
            all += told(p, what);
        }
        return all;
    }

    long harm(int p, int what) {
        return !isPiece(p) || what < 0 || what > 2 ? NO : told(p, what);
    }

    long state(int p, int h, int step) {
        return !isPiece(p) || !isHour(h) || step < 0 || step > night[1] ? NO : reckoned(p, h)[2 + step];
    }

    int worst() {
        int worst = -1;
        for (int p = pieces.size() - 1; p >= 0; p--) {
            if (told(p, 1) > 0 && (worst == -1 || told(p, 1) >= told(worst, 1))) {
                worst = p;
            }
        }
        return worst;
    }

    long more(int p, int h) {
        if (!isPiece(p) || !isHour(h)) {
            return NO;
        }
        Plain c = copyOfAll();
        c.extraPiece = p;
        c.extraHour = h;
        return allHarm() - c.allHarm();
    }

    long bestLook(int what) {
        if (what < 0 || what > 1) {
            return NO;
        }
        long most = 0;
        int where = -1;
        for (int h = 0; h < night[0]; h++) {
            for (int p = 0; p < pieces.size(); p++) {
                long less = more(p, h);
                if (less > most) {
                    most = less;
                    where = 10 * h + p;
                }
            }
        }
        return what == 0 ? where : most;
    }

    int lamp(int p, int is) {
        if (!isPiece(p)) {
            return NONE;
        }
        if (is < 0 || is > 1) {
            return BAD;
        }
        boolean was = pieces.get(p).lamp;
        pieces.get(p).lamp = is == 1;
        return was ? 1 : 0;
    }

    int ready(int what) {
        if (what < 0 || what > 1) {
            return BAD;
        }
        long least = allHarm();
        int best = -1;
        for (int p = 0; p < pieces.size(); p++) {
            Plain c = copyOfAll();
            if (what == 0) {
                c.pieces.get(p).lamp = true;
            } else {
                c.pieces.get(p).sacks = Math.min(3, pieces.get(p).sacks + 1);
            }
            long all = c.allHarm();
            if (all < least) {
                least = all;
                best = p;
            }
        }
        return best;
    }

    long rounds(int m, int what) {
        if (!isMan(m) || what < 0 || what > 1) {
            return NO;
        }
        long least = 0;
        int best = -1;
        for (int ends = 0; ends < 80; ends++) {
            if (ends / 10 <= ends % 10 && isPiece(ends % 10)) {
                Plain c = copyOfAll();
                c.men.get(m).kind = 1;
                c.men.get(m).post = ends / 10;
                c.men.get(m).end = ends % 10;
                long all = c.allHarm();
                if (best == -1 || all < least) {
                    least = all;
                    best = ends;
                }
            }
        }
        return what == 0 ? best : least;
    }

    int quick(int m) {
        if (!isMan(m)) {
            return -5;
        }
        long[] all = new long[4];
        for (int pace = 1; pace <= 3; pace++) {
            Plain c = copyOfAll();
            c.pace(m, pace);
            all[pace] = c.allHarm();
        }
        return all[1] <= all[2] && all[1] <= all[3] ? 1 : all[2] <= all[3] ? 2 : 3;
    }

    long next(int m, int h, int what) {
        if (!isMan(m) || !isHour(h) || h == 0 || what < 0 || what > 1) {
            return NO;
        }
        int from = where(m, h - 1);
        long least = 0;
        int best = -1;
        for (int p = 0; p < pieces.size(); p++) {
            if (Math.abs(p - from) <= men.get(m).pace) {
                Plain c = copyOfAll();
                c.men.get(m).putHour = h;
                c.men.get(m).putPiece = p;
                long all = c.allHarm();
                if (best == -1 || all < least) {
                    least = all;
                    best = p;
                }
            }
        }
        return what == 0 ? best : least;
    }

    int spare() {
        long least = 0;
        int best = -1;
        for (int m = 0; m < men.size(); m++) {
            Plain c = copyOfAll();
            c.men.get(m).neverLooks = true;
            long all = c.allHarm();
            if (best == -1 || all < least) {
                least = all;
                best = m;
            }
        }
        return best;
    }

    int judge(int s, int v) {
        if (s < 0 || s > 3 || v < 1 || v > 3) {
            return BAD;
        }
        if (sheets[s] == null) {
            return -11;
        }
        if (sheets[s].length != night[0]) {
            return BAD;
        }
        for (int h = 0; h < night[0]; h++) {
            if (sheets[s][h] < 0 || sheets[s][h] >= pieces.size()) {
                return h;
            }
            if (h > 0 && Math.abs(sheets[s][h] - sheets[s][h - 1]) > v) {
                return h;
            }
        }
        return -1;
    }

    int sure(int n) {
        if (n < 0 || n > 12) {
            return BAD;
        }
        int longest = 0;
        for (int p = 0; p < pieces.size(); p++) {
            longest = Math.max(longest, often(p, 1));
        }
        return longest <= n ? 1 : 0;
    }

    int fewest(int n) {
        if (n < 0 || n > 12) {
            return BAD;
        }
        int l = 20;
        while (l > 1 && 2 * l - 3 > n) {
            l--;
        }
        return (pieces.size() + l - 1) / l;
    }

    int check(int m) {
        if (!isMan(m)) {
            return -5;
        }
        int[][] at = walk();
        for (int h = 0; h < night[0]; h++) {
            for (int o = 0; o < men.size(); o++) {
                if (o != m && !awake(m, h) && awake(o, h) && at[h][o] == at[h][m]) {
                    return h;
                }
            }
        }
        return -1;
    }

    int call(int h) {
        if (h < -1 || h > 11) {
            return BAD;
        }
        int was = called;
        called = h;
        return was;
    }

    long village(int h) {
        if (h < -1 || h > 11) {
            return NO;
        }
        Plain c = copyOfAll();
        c.called = h;
        return c.allHarm();
    }

    int callWhen(int cost) {
        if (cost < 0 || cost > 9999) {
            return BAD;
        }
        int best = -1;
        for (int h = night[0] - 1; h >= 0; h--) {
            long all = village(h) + 1000000000L * cost;
            if (all < village(-1) && (best == -1 || all <= village(best) + 1000000000L * cost)) {
                best = h;
            }
        }
        return best;
    }

    int trusts(int h, int cost) {
        if (!isHour(h) || cost < 0 || cost > 9999) {
            return BAD;
        }
        for (int n = 0; n <= night[3]; n++) {
            Plain c = copyOfAll();
            c.night[3] -= n;
            if (c.village(-1) - c.village(h) <= 1000000000L * cost) {
                return n == 0 ? -1 : n;
            }
        }
        return -1;
    }

    int places(int s) {
        if (s < 0 || s > 3) {
            return BAD;
        }
        if (sheets[s] == null) {
            return -11;
        }
        if (sheets[s].length != pieces.size() || !Arrays.stream(sheets[s]).allMatch(v -> v >= 0 && v <= 9999)) {
            return BAD;
        }
        long all = Arrays.stream(sheets[s]).sum();
        int bits = 0;
        for (int p = 0; p < pieces.size(); p++) {
            if (sheets[s][p] * pieces.size() > 2 * all) {
                bits += 1 << p;
            }
        }
        return bits;
    }

    int learn(int s) {
        int bits = places(s);
        if (bits < 0) {
            return bits;
        }
        int otherwise = 0;
        for (int p = 0; p < pieces.size(); p++) {
            int old = (bits & 1 << p) != 0 ? 1 : 0;
            if (pieces.get(p).old != old) {
                otherwise++;
            }
            pieces.get(p).old = old;
        }
        return otherwise;
    }

    long drawn(int seed, int what) {
        if (seed < 0 || seed > 99999 || what < 0 || what > 2) {
            return NO;
        }
        int[][] at = walk();
        long lot = seed + 1;
        long[] answers = new long[3];
        int[] hole = new int[pieces.size()];
        for (int h = 0; h < night[0]; h++) {
            for (int p = 0; p < pieces.size(); p++) {
                if (hole[p] == night[1]) {
                    continue;
                }
                if (hole[p] > 0) {
                    hole[p]++;
                    if (hole[p] == night[1]) {
                        answers[0] += harmOf(p, h, night[1]);
                        answers[1]++;
                        continue;
                    }
                } else {
                    lot = lot * 48271 % 2147483647;
                    if (lot % 1000 < risk(p, h, since(at, p, h))) {
                        hole[p] = 1;
                    }
                }
                for (Look look : looks(at, p, h)) {
                    if (hole[p] > 0) {
                        lot = lot * 48271 % 2147483647;
                        if (lot % 100 < seen(p, h, hole[p], look.pace)) {
                            answers[0] += harmOf(p, h, hole[p]);
                            answers[2]++;
                            hole[p] = 0;
                        }
                    }
                }
            }
        }
        return answers[what];
    }

    int image() {
        image = copyOfAll();
        return pieces.size();
    }

    int back() {
        if (image == null) {
            return STATE;
        }
        Plain c = image.copyOfAll();
        night = c.night;
        water = c.water;
        called = c.called;
        law = c.law;
        for (int p = 0; p < c.pieces.size(); p++) {
            pieces.set(p, c.pieces.get(p));
        }
        for (int m = 0; m < c.men.size(); m++) {
            men.get(m).pace = c.men.get(m).pace;
        }
        return pieces.size();
    }

    int sheet(int s, int sort, int n) {
        if (s < 0 || s > 3 || sort < -1 || sort > 2) {
            return BAD;
        }
        if (sort == -1) {
            sheets[s] = null;
            return 1;
        }
        if (n > 40) {
            return BAD;
        }
        if (n < 0) {
            return -14;
        }
        sheets[s] = new long[n];
        sorts[s] = sort;
        return 1;
    }

    int cell(int s, int i, int v) {
        if (s < 0 || s > 3) {
            return BAD;
        }
        if (sheets[s] == null) {
            return -11;
        }
        if (i < 0 || i >= sheets[s].length) {
            return -12;
        }
        sheets[s][i] = sorts[s] == 0 ? (byte) v : sorts[s] == 1 ? (short) v : v;
        return 1;
    }

    int copy(int s, int i, int other, int j, int n) {
        if (s < 0 || s > 3 || other < 0 || other > 3) {
            return BAD;
        }
        if (sheets[s] == null || sheets[other] == null) {
            return -11;
        }
        if (sorts[s] != sorts[other]) {
            return -13;
        }
        try {
            System.arraycopy(sheets[s], i, sheets[other], j, n);
            return n;
        } catch (IndexOutOfBoundsException e) {
            return -12;
        }
    }

    int piecesBy(int s, int sort, int at, int n) {
        if (s < 0 || s > 3 || sort < 0 || sort > 2 || n < 0 || n > 8) {
            return BAD;
        }
        if (sheets[s] == null) {
            return -11;
        }
        if (sorts[s] != sort) {
            return -13;
        }
        int came = 0;
        for (long k = at; k < (long) at + 2 * n; k += 2) {
            if (k < 0 || k + 1 >= sheets[s].length) {
                return -12;
            }
            if (piece((int) sheets[s][(int) k], (int) sheets[s][(int) k + 1]) >= 0) {
                came++;
            }
        }
        return came;
    }

    int taken(int i, int kind) {
        if (kind < 0 || kind > 6) {
            return BAD;
        }
        if (i < 0 || i > 12) {
            return -12;
        }
        if (i < 8 ? !isPiece(i) : !isMan(i - 8)) {
            return -11;
        }
        if (i < 8) {
            return kind == 6 ? pieces.get(i).worth : -13;
        }
        int is = men.get(i - 8).kind;
        boolean taken = kind == 0 || kind == is || kind == 1 && (is == 4 || is == 5);
        return taken && kind != 6 ? i - 8 : -13;
    }
}
