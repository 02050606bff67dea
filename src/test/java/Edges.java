import java.lang.reflect.Method;
import java.util.ArrayList;
import java.util.Arrays;
import java.util.Comparator;
import java.util.HashMap;
import java.util.List;
import java.util.Map;
import java.util.function.Supplier;

/** What the tests of single sentences have in common. */
abstract class Edges {
    static final int NONE = WalkTheDike.NONE, BAD = WalkTheDike.BAD, STATE = WalkTheDike.STATE, FULL = WalkTheDike.FULL;
    static final long NO = WalkTheDike.NO;

    static final Supplier<WalkTheDike> NEW = WalkTheDike::new;
    static final Supplier<WalkTheDike> SOME = Worlds::some;
    static final Supplier<WalkTheDike> ALL = Worlds::full;

    private static final Map<Supplier<WalkTheDike>, List<Long>> KNOWN = new HashMap<>();

    /** Runs the tests of a class, one for each sentence. */
    static void hold(Class<?> tests) throws ReflectiveOperationException {
        for (Method test : testsOf(tests)) {
            Says says = test.getAnnotation(Says.class);
            Due.of((says.of() == 0 ? "Terms" : "promise " + says.of()) + ", '" + says.value() + "': ");
            int asked = Due.asked();
            Due.is("DOC.md says so", Doc.words(says.of()).contains(says.value()) ? 1 : 0, 1);
            test.setAccessible(true);
            test.invoke(null);
            Due.is("something is asked", Due.asked() > asked + 1 ? 1 : 0, 1);
        }
        Due.end();
    }

    static List<Method> testsOf(Class<?> tests) {
        List<Method> all = new ArrayList<>();
        for (Method m : tests.getDeclaredMethods()) {
            if (m.isAnnotationPresent(Says.class)) {
                all.add(m);
            }
        }
        all.sort(Comparator.comparing((Method m) -> m.getAnnotation(Says.class).of()).thenComparing(Method::getName));
        return all;
    }

    static void is(WalkTheDike x, String call, long want) {
        Due.is(call, Call.on(x, call), want);
    }

    /** Calls on a new world each: they are refused so, and whatever can be seen is as it was without them. */
    static void refused(Supplier<WalkTheDike> world, long want, String... calls) {
        for (String call : calls) {
            is(world.get(), call, want);
            unchanged(world, call);
        }
    }

    /** Whatever can be seen of a world is the same behind a call. */
    static void unchanged(Supplier<WalkTheDike> world, String call) {
        List<Long> was = KNOWN.computeIfAbsent(world, Seen::of);
        List<Long> is = Seen.of(() -> {
            WalkTheDike x = world.get();
            Call.on(x, call);
            return x;
        });
        Due.is(call + " changed something; what it did", is.equals(was) ? 0 : 1, 0);
    }

    /** Of one number of a call, told as %d, these are the last ones that are taken: what they answer. */
    static void within(Supplier<WalkTheDike> world, String call, int least, long ofLeast, int most, long ofMost) {
        is(world.get(), String.format(call, least), ofLeast);
        is(world.get(), String.format(call, most), ofMost);
    }

    /** Of one number of a call these are the last ones that are taken: beyond them it is refused. */
    static void beyond(Supplier<WalkTheDike> world, String call, int least, int most, long want) {
        for (int v : new int[] {least - 1, most + 1, Integer.MIN_VALUE, Integer.MAX_VALUE}) {
            refused(world, want, String.format(call, v));
        }
    }

    /** The same answer to each of a row of calls. */
    static void each(WalkTheDike x, long want, String... calls) {
        for (String call : calls) {
            is(x, call, want);
        }
    }

    /** Answers to a call of which one number, told as %d, is 0, 1, 2, .. . */
    static void row(WalkTheDike x, String call, long... want) {
        for (int i = 0; i < want.length; i++) {
            is(x, String.format(call, i), want[i]);
        }
    }

    static long[] times(int n, long v) {
        long[] all = new long[n];
        Arrays.fill(all, v);
        return all;
    }

    /** A night of so many HOURS in which holes break at a step, by a law; PIECES by their WORTH, not OLD. */
    static WalkTheDike night(int hours, int breaks, String law, int... worths) {
        WalkTheDike x = Due.withPieces(worths);
        x.night(0, hours);
        x.night(1, breaks);
        Due.law(x, law);
        return x;
    }

    static WalkTheDike eight() {
        return Due.withPieces(0, 0, 0, 0, 0, 0, 0, 0);
    }

    /** Where a MAN is in the hours 0, 1, .. . */
    static void way(WalkTheDike x, int m, long... want) {
        row(x, "where(" + m + ", %d)", want);
    }

    static long lot(int seed, int k) {
        long lot = seed + 1L;
        for (int i = 0; i < k; i++) {
            lot = lot * 48271 % 2147483647;
        }
        return lot;
    }
}
