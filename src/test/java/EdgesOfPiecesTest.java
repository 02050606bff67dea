import java.util.List;
import java.util.function.Supplier;

/** Promises 1 to 6. */
public final class EdgesOfPiecesTest extends Edges {
    public static void main(String[] args) throws ReflectiveOperationException {
        hold(EdgesOfPiecesTest.class);
    }

    @Says(of = 1, value = "No PIECES, MEN.")
    static void aNewObject() {
        WalkTheDike x = new WalkTheDike();
        is(x, "count(5)", 0);
        is(x, "count(6)", 0);
        row(x, "taken(%d, 0)", -11, -11, -11, -11, -11, -11, -11, -11, -11, -11, -11, -11, -11, -12);
        refused(NEW, -5, "set(0, 0, 0)", "asks(0, 0, 0, 0, 0)", "manTold(0, 0)", "where(0, 0)", "often(0, 0)", "meet(0, 1)",
            "quick(0)", "check(0)");
        refused(NEW, NONE, "pace(0, 1)", "lamp(0, 0)");
        refused(NEW, NO, "harm(0, 0)", "state(0, 0, 0)", "more(0, 0)", "rounds(0, 0)", "next(0, 1, 0)");
        refused(NEW, BAD, "man(0, 0, 10, 0)");
        row(x, "run(%d)", 0, 0, 0);
        row(x, "looked(%d)", times(8, 0));
        each(x, -1, "worst()", "ready(0)", "ready(1)", "spare()", "bestLook(0)", "callWhen(0)", "trusts(0, 0)");
        each(x, 0, "bestLook(1)", "fewest(0)", "fewest(12)", "village(0)", "drawn(0, 0)", "drawn(0, 1)", "drawn(0, 2)", "image()",
            "back()");
        is(x, "sure(0)", 1);
        // of no PIECES none is one: a way of hours has its FAULT at once; a row of none is told
        x.sheet(0, 0, 8);
        is(x, "judge(0, 1)", 0);
        is(x, "places(0)", BAD);
        x.sheet(0, 0, 0);
        is(x, "places(0)", 0);
        is(x, "learn(0)", 0);
    }

    @Says(of = 2, value = "A PIECE (OLD, WORTH): its number.")
    static void piece() {
        WalkTheDike x = new WalkTheDike();
        is(x, "piece(0, 0)", 0);
        is(x, "piece(1, 99)", 1);
        is(x, "piece(0, 99)", 2);
        is(x, "piece(1, 0)", 3);
        row(x, "taken(%d, 6)", 0, 99, 99, 0);
        row(x, "set(%d, 0, 1)", 0, 1, 0, 1);
        row(x, "set(%d, 2, 1)", 0, 0, 0, 0);
        row(x, "lamp(%d, 1)", 0, 0, 0, 0);
        is(x, "piece(0, 1)", 4);
        is(x, "piece(0, 1)", 5);
        is(x, "piece(0, 1)", 6);
        is(x, "piece(0, 1)", 7);
    }

    @Says(of = 2, value = "BAD;")
    static void pieceBad() {
        for (Supplier<WalkTheDike> world : List.of(NEW, SOME, ALL)) {
            beyond(world, "piece(%d, 0)", 0, 1, BAD);
            beyond(world, "piece(0, %d)", 0, 99, BAD);
        }
        refused(SOME, BAD, "piece(2, 100)", "piece(-1, -1)");
    }

    @Says(of = 2, value = "FULL.")
    static void pieceFull() {
        refused(ALL, FULL, "piece(0, 0)", "piece(1, 99)");
        WalkTheDike x = Due.withPieces(1, 2, 3, 4, 5, 6, 7);
        is(x, "piece(0, 8)", 7);
        is(x, "piece(0, 9)", FULL);
        is(x, "piece(0, 100)", BAD);
        row(x, "taken(%d, 6)", 1, 2, 3, 4, 5, 6, 7, 8);
    }

    @Says(of = 3, value = "What 0 OLD, 1 WORTH, 2 SACKS of a PIECE becomes v: what was.")
    static void set() {
        WalkTheDike x = eight();
        int[] most = {1, 99, 3};
        for (int p = 0; p < 8; p += 7) {
            for (int what = 0; what < 3; what++) {
                String set = "set(" + p + ", " + what + ", ";
                is(x, set + "0)", 0);
                is(x, set + most[what] + ")", 0);
                is(x, set + most[what] + ")", most[what]);
                is(x, set + "1)", most[what]);
                is(x, set + "0)", 1);
                is(x, set + most[what] + ")", 0);
            }
        }
        // each is its own
        row(x, "set(%d, 0, 0)", 1, 0, 0, 0, 0, 0, 0, 1);
        row(x, "set(%d, 1, 0)", 99, 0, 0, 0, 0, 0, 0, 99);
        row(x, "set(%d, 2, 0)", 3, 0, 0, 0, 0, 0, 0, 3);
    }

    @Says(of = 3, value = "-5: no such PIECE;")
    static void setNone() {
        beyond(SOME, "set(%d, 0, 0)", 0, 2, -5);
        beyond(ALL, "set(%d, 1, 5)", 0, 7, -5);
        refused(NEW, -5, "set(0, 0, 0)");
        refused(SOME, -5, "set(3, 3, 0)", "set(-1, 0, 2)", "set(8, -1, -1)");
    }

    @Says(of = 3, value = "-7: what, v.")
    static void setNotAsTold() {
        beyond(SOME, "set(0, %d, 0)", 0, 2, -7);
        beyond(SOME, "set(0, 0, %d)", 0, 1, -7);
        beyond(SOME, "set(0, 1, %d)", 0, 99, -7);
        beyond(SOME, "set(0, 2, %d)", 0, 3, -7);
    }

    @Says(of = 4, value = "What 0 how many HOURS, 1 BREAKS, 2 WIND, 3 TRUST, 4 COMES becomes v: what was.")
    static void night() {
        int[] least = {1, 2, 0, 0, 0};
        int[] most = {12, 6, 9, 8, 12};
        int[] first = {8, 4, 0, 4, 2};
        WalkTheDike x = new WalkTheDike();
        for (int what = 0; what < 5; what++) {
            String night = "night(" + what + ", ";
            is(x, night + least[what] + ")", first[what]);
            is(x, "count(" + what + ")", least[what]);
            is(x, night + most[what] + ")", least[what]);
            is(x, "count(" + what + ")", most[what]);
            is(x, night + most[what] + ")", most[what]);
        }
        row(x, "count(%d)", 12, 6, 9, 8, 12);
        // WIND, by a law that tells it
        WalkTheDike y = night(1, 2, "risk wind*10;seen 0;harm 0;", 0);
        is(y, "asks(0, 0, 0, 0, 0)", 0);
        is(y, "night(2, 9)", 0);
        is(y, "asks(0, 0, 0, 0, 0)", 90);
        is(y, "state(0, 0, 1)", 90000000);
        is(y, "night(2, 1)", 9);
        is(y, "asks(0, 0, 0, 0, 0)", 10);
    }

    @Says(of = 4, value = "NONE: what;")
    static void nightNone() {
        beyond(SOME, "night(%d, 2)", 0, 4, NONE);
        refused(SOME, NONE, "night(5, 13)", "night(-1, -1)");
    }

    @Says(of = 4, value = "BAD: v.")
    static void nightBad() {
        beyond(SOME, "night(0, %d)", 1, 12, BAD);
        beyond(SOME, "night(1, %d)", 2, 6, BAD);
        beyond(SOME, "night(2, %d)", 0, 9, BAD);
        beyond(SOME, "night(3, %d)", 0, 8, BAD);
        beyond(SOME, "night(4, %d)", 0, 12, BAD);
    }

    @Says(of = 5, value = "WATER in an hour (0 .. 11): what it was.")
    static void water() {
        WalkTheDike x = Due.withPieces(0);
        x.night(0, 1);
        row(x, "water(%d, 9)", times(12, 0));
        row(x, "water(%d, 4)", times(12, 9));
        is(x, "water(0, 1)", 4);
        is(x, "water(11, 2)", 4);
        for (int h = 0; h < 12; h++) {
            is(x, "asks(0, 0, " + h + ", 0, 0)", h == 0 ? 4 : h == 11 ? 8 : 16);
        }
    }

    @Says(of = 5, value = "NONE;")
    static void waterNone() {
        beyond(SOME, "water(%d, 0)", 0, 11, NONE);
        refused(SOME, NONE, "water(12, 10)", "water(-1, -1)");
    }

    @Says(of = 5, value = "BAD.")
    static void waterBad() {
        beyond(SOME, "water(0, %d)", 0, 9, BAD);
        beyond(SOME, "water(11, %d)", 0, 9, BAD);
    }

    @Says(of = 6, value = "0 .. 4 as of night(), 5 PIECES, 6 MEN, 7 TEXTS, 8 THE LAW, 9 bytes of THE TAPE.")
    static void count() {
        row(new WalkTheDike(), "count(%d)", 8, 4, 0, 4, 2, 0, 0, 1, 0, 0);
        row(Worlds.some(), "count(%d)", 8, 4, 5, 4, 2, 3, 2, 2, 1, 6);
        row(Worlds.full(), "count(%d)", 12, 6, 5, 2, 1, 8, 5, 6, 3, 160);
    }

    @Says(of = 6, value = "BAD.")
    static void countBad() {
        beyond(SOME, "count(%d)", 0, 9, BAD);
    }
}
