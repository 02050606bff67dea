import java.lang.reflect.Method;
import java.util.ArrayList;
import java.util.List;
import java.util.Random;

/** A random run of so many calls on one object: the class answers as Plain does, up to the last one. */
final class RandomRun {
    /** So many calls ask all that can be asked of what has come of it; some more are random ones again. */
    private static final int ALL = 100, BEHIND = 30;
    /** More than a row or a text takes. */
    private static final int ROOM = 45;

    /** Each method with the least and most of its numbers; what is a bit beyond comes now and then. */
    private static final String[] FACE = {
        "piece 0 1 0 99", "set 0 7 0 2 0 3", "set 0 7 1 1 0 99", "set 0 7 2 2 0 3", "night 0 4 0 8", "night 0 0 1 12",
        "night 1 1 2 6", "water 0 11 0 9", "water 0 11 0 9", "count 0 9", "force 0 3", "asks 0 2 0 7 0 11 0 12 0 3",
        "man 0 5 0 77 10 35 0 3", "man 3 3 0 77 10 35 0 0", "man 2 2 0 77 10 35 0 3", "pace 0 4 1 3", "manTold 0 4 0 16",
        "where 0 4 0 11", "where 0 4 0 11", "looked 0 11", "often 0 7 0 1", "meet 0 4 0 4", "run 0 2", "harm 0 7 0 2",
        "state 0 7 0 11 0 6", "worst", "more 0 7 0 11", "bestLook 0 1", "lamp 0 7 0 1", "ready 0 1", "rounds 0 4 0 1",
        "quick 0 4", "next 0 4 1 11 0 1", "next 0 4 1 5 0 1", "spare", "judge 0 3 1 3", "sure 0 12", "fewest 0 12",
        "check 0 4", "call -1 11", "village -1 11", "callWhen 0 30", "trusts 0 11 0 30", "places 0 3", "learn 0 3",
        "drawn 0 99999 0 2", "drawn 0 99999 0 2", "image", "back", "sheet 0 3 -1 2 0 40", "cell 0 3 0 39 0 99",
        "copy 0 3 0 12 0 3 0 12 0 12", "piecesBy 0 3 0 2 0 12 0 8", "taken 0 12 0 6",
    };
    private static final int[] ODD = {-2147483648, -1000, -2, -1, 0, 1, 13, 41, 100, 255, 1000, 65536, 2147483647};

    private final int seed;
    private final Random random;
    private final WalkTheDike x = new WalkTheDike();
    private final Plain plain = new Plain();
    private final boolean wild;
    private int left;

    RandomRun(int seed, int calls) {
        this.seed = seed;
        left = calls;
        random = new Random(seed);
        wild = seed % 5 == 0;
    }

    void go() throws ReflectiveOperationException {
        begin();
        while (left > ALL + BEHIND) {
            boolean room = left > ALL + BEHIND + ROOM;
            if (room && random.nextInt(20) == 0) {
                text();
            } else if (room && random.nextInt(25) == 0) {
                row();
            } else {
                any();
            }
        }
        all();
        while (left > 0) {
            any();
        }
    }

    private void all() throws ReflectiveOperationException {
        for (int what = 0; what < 10; what++) {
            both("count", what);
        }
        for (int h = 0; h < 12; h++) {
            both("looked", h);
            both("village", h);
            for (int m = 0; m < 5; m++) {
                both("where", m, h);
            }
        }
        for (int what = 0; what < 3; what++) {
            both("run", what);
            both("drawn", random.nextInt(100000), what);
        }
    }

    private void any() throws ReflectiveOperationException {
        one(FACE[random.nextInt(FACE.length)].split(" "));
    }

    private void begin() throws ReflectiveOperationException {
        int pieces = random.nextInt(9);
        for (int p = 0; p < pieces; p++) {
            both("piece", random.nextInt(2), random.nextInt(100));
        }
        both("night", 0, 1 + random.nextInt(12));
        both("night", 1, 2 + random.nextInt(5));
        for (int h = 0; h < 12; h++) {
            both("water", h, random.nextInt(10));
        }
        row();
        if (pieces > 0) {
            int men = random.nextInt(6);
            for (int m = 0; m < men; m++) {
                both("man", random.nextInt(6), 10 * random.nextInt(pieces) + random.nextInt(pieces),
                    10 + 10 * random.nextInt(3) + random.nextInt(6), 0);
            }
        }
        both("call", random.nextInt(13) - 1);
        if (seed % 3 != 0) {
            text();
        }
    }

    private void one(String[] call) throws ReflectiveOperationException {
        int[] v = new int[call.length / 2];
        for (int i = 0; i < v.length; i++) {
            int least = Integer.parseInt(call[1 + 2 * i]);
            int most = Integer.parseInt(call[2 + 2 * i]);
            int kind = random.nextInt(wild ? 8 : 60);
            v[i] = kind == 0 ? ODD[random.nextInt(ODD.length)] : kind == 1 ? least - 1 : kind == 2 ? most + 1
                : least + random.nextInt(most - least + 1);
        }
        both(call[0], v);
    }

    private void row() throws ReflectiveOperationException {
        int[] sizes = {12, plain.count(5), plain.count(0), 40};
        int s = random.nextInt(4);
        int most = s == 1 && random.nextBoolean() ? 9999 : plain.count(5) == 0 ? 1 : plain.count(5);
        both("sheet", s, random.nextInt(3), sizes[s]);
        for (int i = 0; i < sizes[s]; i++) {
            both("cell", s, i, random.nextInt(random.nextInt(12) == 0 ? 9 : most));
        }
    }

    private void text() throws ReflectiveOperationException {
        String t = "risk " + e(0) + ";seen " + e(0) + ";harm " + e(0) + ";";
        int change = random.nextInt(wild ? 2 : 8);
        if (change == 0 && t.length() > 0) {
            String odd = "()+-*<=;%9 a\n";
            int i = random.nextInt(t.length());
            int k = random.nextInt(3);
            String put = k == 0 ? "" : "" + odd.charAt(random.nextInt(odd.length()));
            t = t.substring(0, i) + put + t.substring(k == 1 ? i : i + 1);
        }
        for (int i = 0; i < t.length() && i < 160; i += 8) {
            String part = t.substring(i, Math.min(t.length(), i + 8));
            long w = random.nextLong();
            for (int k = 0; k < part.length(); k++) {
                w = w << 8 | part.charAt(k);
            }
            same("feed", x.feed(w, part.length()), plain.feed(w, part.length()));
        }
        int got = x.text();
        same("text of " + t, got, plain.text());
        if (got > 0 && random.nextInt(3) > 0) {
            both("force", got);
        }
    }

    /** A random E; deeper ones are less likely. */
    private String e(int deep) {
        String[] names = {"water", "old", "wind", "step", "worth", "pace"};
        String[] joins = {" or ", " and ", "<", "=", "+", "+", "-", "*", "*"};
        int kind = random.nextInt(deep > 6 ? 2 : 9);
        switch (kind) {
            case 0: return "" + random.nextInt(random.nextInt(4) == 0 ? 2000 : 60);
            case 1:
            case 2: return names[random.nextInt(6)];
            case 3: return "(" + e(deep + 1) + ")";
            case 4: return random.nextInt(3) == 0 ? "-" + e(deep + 1) : e(deep + 1) + "*" + names[3];
            case 5: return random.nextInt(3) == 0 ? "not " + e(deep + 1) : names[0] + "*9+" + e(deep + 1);
            default: return e(deep + 2) + joins[random.nextInt(joins.length)] + e(deep + 2);
        }
    }

    private void both(String name, int... v) throws ReflectiveOperationException {
        Class<?>[] types = new Class<?>[v.length];
        List<Object> values = new ArrayList<>();
        StringBuilder call = new StringBuilder(name);
        for (int i = 0; i < v.length; i++) {
            types[i] = int.class;
            values.add(v[i]);
            call.append(i == 0 ? "(" : ", ").append(v[i]);
        }
        Method asked = WalkTheDike.class.getMethod(name, types);
        Method due = Plain.class.getDeclaredMethod(name, types);
        long got = ((Number) asked.invoke(x, values.toArray())).longValue();
        same(call.toString(), got, ((Number) due.invoke(plain, values.toArray())).longValue());
    }

    private void same(String call, long got, long want) {
        left--;
        Due.is("seed " + seed + ": " + call, got, want);
    }
}
