import java.util.function.Supplier;

/** Runs of 512 calls on one object: each is answered as the document says, up to the last one. */
public final class LongRunsTest {
    private static final int CALLS = 512;
    private static final int RANDOM_RUNS = 60;

    /** What reckons most nights in one call. */
    private static final String[] DEAR = {
        "bestLook(0)", "bestLook(1)", "rounds(4, 0)", "rounds(0, 1)", "next(0, 11, 0)", "quick(3)", "ready(0)", "ready(1)",
        "callWhen(0)", "trusts(0, 0)", "spare()", "more(7, 11)", "village(0)", "run(0)", "drawn(99999, 0)", "sure(0)",
    };
    /** The longest TEXT that there can be, nearly: all of it is asked for each hole. */
    private static final String DEAREST = "risk step*5+water*wind-old<9 or step*7;"
        + "seen not(1+(2+(3+(4-pace*worth))))+90-step*7-pace-1-1-1-1-1-1;harm step*worth-1-1-1-1-1-1+water+wind+old+9*9;";

    public static void main(String[] args) throws ReflectiveOperationException {
        for (int seed = 0; seed < RANDOM_RUNS; seed++) {
            new RandomRun(1000000 + seed, CALLS).go();
        }
        dear();
        theSameAgain();
        texts();
        images();
        manyPieces();
        odd();
        Due.end();
    }

    private static WalkTheDike dearest() {
        WalkTheDike x = new WalkTheDike();
        for (int p = 0; p < 8; p++) {
            x.piece(p % 2, 90 - p);
        }
        x.night(0, 12);
        x.night(1, 6);
        x.night(2, 3);
        for (int h = 0; h < 12; h++) {
            x.water(h, (3 * h + 1) % 10);
        }
        for (int m = 0; m < 5; m++) {
            x.man(2, 11 * m, 30, 0);
        }
        x.lamp(6, 1);
        x.call(9);
        Due.law(x, DEAREST);
        return x;
    }

    private static void dear() {
        long made = 8 + 3 + 12 + 5 + 2 + DEAREST.length() / 8 + 3;
        for (String call : DEAR) {
            again(LongRunsTest::dearest, call, CALLS - made);
        }
        WalkTheDike x = dearest();
        Due.is("the dearest night harms", x.run(0) > 0 ? 1 : 0, 1);
        Due.is("the best look is told for it", x.bestLook(1) > 0 ? 1 : 0, 1);
    }

    /** One call, asked again and again: it answers as it did, and as another object does that was asked others. */
    private static void again(Supplier<WalkTheDike> world, String call, long times) {
        WalkTheDike x = world.get();
        long first = Call.on(world.get(), call);
        for (long i = 0; i < times; i++) {
            Due.is("call " + i + " of " + call, Call.on(x, call), first);
        }
    }

    /** All that is asked in turns: no answer lives on in one that comes behind it. */
    private static void theSameAgain() {
        long[] first = new long[DEAR.length];
        for (int i = 0; i < DEAR.length; i++) {
            first[i] = Call.on(dearest(), DEAR[i]);
        }
        WalkTheDike x = dearest();
        for (int i = 0; i < 460; i++) {
            int k = i * 7 % DEAR.length;
            Due.is("call " + i + ", " + DEAR[k], Call.on(x, DEAR[k]), first[k]);
        }
    }

    /** TEXTS that are none, THE LAW forced to and fro, a TAPE that is full: to the last call. */
    private static void texts() {
        WalkTheDike x = Due.withPieces(1);
        Due.text(x, "risk 7;seen 1;harm 1;");
        for (int i = 0; i < 100; i++) {
            int law = i % 2;
            Due.is("force " + i, x.force(1 - law), law);
            Due.is("RISK " + i, x.asks(0, 0, 0, 3, 0), law == 0 ? 7 : 3);
            Due.is("feed " + i, x.feed('r', 1), 1);
            Due.is("text " + i, x.text(), -100);
        }
        for (int i = 1; i <= 100; i++) {
            Due.is("feed on " + i, x.feed(-1, 8), i <= 20 ? 8 * i : WalkTheDike.FULL);
        }
        Due.is("the last call", x.count(9), 160);
    }

    private static void images() {
        WalkTheDike x = Due.withPieces(5);
        for (int i = 0; i < 102; i++) {
            Due.is("image " + i, x.image(), 1);
            Due.is("WORTH " + i, x.set(0, 1, 99 - i % 90), 5);
            Due.is("WATER " + i, x.water(0, 9), 0);
            Due.is("back " + i, x.back(), 1);
            Due.is("HARM " + i, x.asks(2, 0, 0, 1, 0), 5);
        }
        Due.is("the last call", x.run(1), Due.withPieces(5).run(1));
    }

    /** As many that come, or are left out, by each call as there can be. */
    private static void manyPieces() {
        WalkTheDike x = new WalkTheDike();
        x.sheet(0, 0, 40);
        for (int i = 0; i < 16; i++) {
            x.cell(0, i, 1);
        }
        for (int i = 0; i < 470; i++) {
            Due.is("piecesBy " + i, x.piecesBy(0, 0, 0, 8), i == 0 ? 8 : 0);
        }
        for (int i = 0; i < 12; i++) {
            Due.is("OLD, ahead of " + i, x.set(1, 0, i % 2), (i + 1) % 2);
            Due.is("RISK " + i, x.asks(0, 1, 0, 1, 0), 1 + 20 * (i % 2));
        }
        Due.is("the last call", x.count(5), 8);
    }

    /** The least int and the most for each number of the face in turns: each is refused. */
    private static void odd() {
        String[] face = {"piece(%d, 0)", "set(%d, 0, 0)", "set(0, %d, 0)", "set(0, 0, %d)", "night(%d, 1)", "night(0, %d)",
            "water(%d, 0)", "water(0, %d)", "count(%d)", "feed(0, %d)", "force(%d)", "asks(%d, 0, 0, 0, 0)",
            "asks(0, %d, 0, 0, 0)", "asks(0, 0, %d, 0, 0)", "asks(0, 0, 0, %d, 0)", "asks(0, 0, 0, 0, %d)",
            "man(%d, 0, 10, 0)", "man(0, %d, 10, 0)", "man(0, 0, %d, 0)", "man(3, 0, 10, %d)", "pace(%d, 1)", "pace(0, %d)",
            "manTold(%d, 0)", "manTold(0, %d)", "where(%d, 0)", "where(0, %d)", "looked(%d)", "often(%d, 0)", "often(0, %d)",
            "meet(%d, 0)", "meet(0, %d)", "run(%d)", "harm(%d, 0)", "harm(0, %d)", "state(%d, 0, 0)", "state(0, %d, 0)",
            "state(0, 0, %d)", "more(%d, 0)", "more(0, %d)", "bestLook(%d)", "lamp(%d, 0)", "lamp(0, %d)", "ready(%d)",
            "rounds(%d, 0)", "rounds(0, %d)", "quick(%d)", "next(%d, 1, 0)", "next(0, %d, 0)", "next(0, 1, %d)",
            "judge(%d, 1)", "judge(0, %d)", "sure(%d)", "fewest(%d)", "check(%d)", "call(%d)", "village(%d)", "callWhen(%d)",
            "trusts(%d, 0)", "trusts(0, %d)", "places(%d)", "learn(%d)", "drawn(%d, 0)", "drawn(0, %d)", "sheet(%d, 0, 1)",
            "sheet(0, %d, 1)", "sheet(0, 0, %d)", "cell(%d, 0, 0)", "cell(0, %d, 0)", "copy(%d, 0, 0, 0, 1)",
            "copy(0, %d, 0, 0, 1)", "copy(0, 0, %d, 0, 1)", "copy(0, 0, 0, %d, 1)", "copy(0, 0, 0, 0, %d)",
            "piecesBy(%d, 0, 0, 1)", "piecesBy(0, %d, 0, 1)", "piecesBy(0, 0, %d, 1)", "piecesBy(0, 0, 0, %d)",
            "taken(%d, 0)", "taken(0, %d)"};
        WalkTheDike x = Worlds.some();
        long harm = x.run(0);
        for (int i = 0; i < 420; i++) {
            String call = String.format(face[i % face.length], i / face.length % 2 == 0 ? Integer.MIN_VALUE : Integer.MAX_VALUE);
            Due.is(call + " is refused", Call.on(x, call) < 0 ? 1 : 0, 1);
        }
        Due.is("the last call", x.run(0), harm);
    }
}
