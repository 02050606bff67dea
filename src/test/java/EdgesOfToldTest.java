import java.util.Arrays;

/** Promises 30 to 33. */
public final class EdgesOfToldTest extends Edges {
    public static void main(String[] args) throws ReflectiveOperationException {
        hold(EdgesOfToldTest.class);
    }

    private static void judged(WalkTheDike x, int v, int want, int... row) {
        Due.row(x, 0, row);
        x.night(0, row.length);
        Due.is(Arrays.toString(row) + " by " + v, x.judge(0, v), want);
    }

    @Says(of = 30, value = "A SHEET tells a PIECE for each hour of the night: the first hour for which it is no PIECE,")
    static void judgeNoPiece() {
        WalkTheDike x = Due.withPieces(0, 0, 0);
        judged(x, 3, -1, 0);
        judged(x, 3, -1, 2);
        judged(x, 3, 0, 3);
        judged(x, 3, 0, -1);
        judged(x, 3, 0, Integer.MIN_VALUE);
        judged(x, 3, 0, Integer.MAX_VALUE);
        judged(x, 3, 1, 0, 3, -1);
        judged(x, 3, 2, 0, 0, 8);
        // a number so far away that the way to it is no int
        judged(x, 3, 1, 2, Integer.MIN_VALUE, 2);
        judged(x, 3, 1, 2, Integer.MAX_VALUE, 2);
        judged(x, 3, 11, 0, 1, 2, 1, 0, 1, 2, 1, 0, 1, 2, 3);
        judged(x, 3, -1, 0, 1, 2, 1, 0, 1, 2, 1, 0, 1, 2, 2);
        x.piece(0, 0);
        judged(x, 3, -1, 3);
        // of each sort
        for (int sort = 0; sort <= 2; sort++) {
            x.sheet(1, sort, 1);
            is(x, "judge(1, 1)", -1);
            x.cell(1, 0, 4);
            is(x, "judge(1, 1)", 0);
        }
        judged(new WalkTheDike(), 1, 0, 0);
    }

    @Says(of = 30, value = "or farther than v (1 .. 3) from the one ahead;")
    static void judgeTooFar() {
        WalkTheDike x = eight();
        for (int v = 1; v <= 3; v++) {
            judged(x, v, -1, 0, v, 2 * v);
            judged(x, v, 1, 0, v + 1, 0);
            judged(x, v, -1, 7, 7 - v, 7 - 2 * v);
            judged(x, v, 1, 7, 6 - v, 7);
            judged(x, v, 2, 3, 3, 4 + v);
            judged(x, v, 11, 3, 3, 3, 3, 3, 3, 3, 3, 3, 3, 3, 4 + v);
        }
        // of the first hour there is none ahead
        judged(x, 1, -1, 7);
        // of both faults the first
        judged(x, 1, 1, 0, 2, 9);
        judged(x, 1, 1, 0, 9, 2);
    }

    @Says(of = 30, value = "-1: none.")
    static void judgeNone() {
        WalkTheDike x = eight();
        judged(x, 1, -1, 0, 1, 2, 3, 4, 5, 6, 7, 7, 6, 5, 4);
        judged(x, 1, -1, 0, 0);
        judged(x, 1, -1, 7);
    }

    @Says(of = 30, value = "BAD: SHEET, v;")
    static void judgeBad() {
        WalkTheDike x = eight();
        x.night(0, 1);
        for (int s = 0; s < 4; s++) {
            x.sheet(s, 0, 1);
        }
        row(x, "judge(%d, 1)", -1, -1, -1, -1, BAD);
        row(x, "judge(0, %d)", BAD, -1, -1, -1, BAD);
        beyond(SOME, "judge(%d, 1)", 0, 3, BAD);
        beyond(SOME, "judge(0, %d)", 1, 3, BAD);
        beyond(SOME, "judge(3, %d)", 1, 3, BAD);
    }

    @Says(of = 30, value = "-11;")
    static void judgeNothing() {
        refused(NEW, -11, "judge(0, 1)", "judge(1, 2)", "judge(2, 3)", "judge(3, 1)");
        refused(SOME, -11, "judge(3, 1)");
    }

    @Says(of = 30, value = "BAD: its size.")
    static void judgeSize() {
        WalkTheDike x = eight();
        for (int hours : new int[] {1, 8, 12}) {
            x.night(0, hours);
            for (int size : new int[] {0, 1, 7, 8, 9, 11, 12, 13, 40}) {
                x.sheet(0, 0, size);
                Due.is(size + " of " + hours, x.judge(0, 1), size == hours ? -1 : BAD);
            }
        }
        refused(SOME, BAD, "judge(0, 1)", "judge(1, 3)", "judge(2, 1)");
    }

    @Says(of = 31, value = "Whether no PIECE has a longer row of hours in which it isn't LOOKED AT than n (0 .. 12) (1, 0).")
    static void sure() {
        WalkTheDike x = Due.withPieces(0, 0);
        x.night(0, 12);
        row(x, "sure(%d)", 0, 0, 0, 0, 0, 0, 0, 0, 0, 0, 0, 0, 1, BAD);
        x.lamp(0, 1);
        row(x, "sure(%d)", 0, 0, 0, 0, 0, 0, 0, 0, 0, 0, 0, 0, 1, BAD);
        x.lamp(1, 1);
        row(x, "sure(%d)", 1, 1, 1, 1, 1, 1, 1, 1, 1, 1, 1, 1, 1, BAD);
        x.lamp(0, 0);
        x.lamp(1, 0);
        x.man(1, 1, 10, 0);
        row(x, "sure(%d)", 0, 1, 1, 1, 1, 1, 1, 1, 1, 1, 1, 1, 1, BAD);
        x.night(0, 1);
        row(x, "sure(%d)", 0, 1, 1);
        // of the first PIECE alone, of the last one alone
        for (int p = 0; p < 8; p += 7) {
            WalkTheDike y = eight();
            for (int other = 0; other < 8; other++) {
                y.lamp(other, other == p ? 0 : 1);
            }
            row(y, "sure(%d)", 0, 0, 0, 0, 0, 0, 0, 0, 1, 1, 1, 1, 1, BAD);
        }
        row(new WalkTheDike(), "sure(%d)", 1, 1, 1, 1, 1, 1, 1, 1, 1, 1, 1, 1, 1, BAD);
    }

    @Says(of = 31, value = "BAD.")
    static void sureBad() {
        beyond(NEW, "sure(%d)", 0, 12, BAD);
        beyond(ALL, "sure(%d)", 0, 12, BAD);
    }

    @Says(of = 32, value = "How many MEN that takes for all PIECES, each alone going to and fro on L of them at PACE 1,"
        + " L as many as can be so that at the ends no row (2 times L, less 3;")
    static void fewest() {
        // L is 2 from 1 on, 3 from 3, 4 from 5, 5 from 7, 6 from 9, 7 from 11
        row(eight(), "fewest(%d)", 8, 4, 4, 3, 3, 2, 2, 2, 2, 2, 2, 2, 2, BAD);
        row(Due.withPieces(0, 0, 0, 0, 0, 0, 0), "fewest(%d)", 7, 4, 4, 3, 3, 2, 2, 2, 2, 2, 2, 1, 1, BAD);
        row(Due.withPieces(0, 0, 0, 0, 0, 0), "fewest(%d)", 6, 3, 3, 2, 2, 2, 2, 2, 2, 1, 1, 1, 1, BAD);
        row(Due.withPieces(0, 0, 0, 0, 0), "fewest(%d)", 5, 3, 3, 2, 2, 2, 2, 1, 1, 1, 1, 1, 1, BAD);
        row(Due.withPieces(0, 0, 0, 0), "fewest(%d)", 4, 2, 2, 2, 2, 1, 1, 1, 1, 1, 1, 1, 1, BAD);
        row(Due.withPieces(0, 0, 0), "fewest(%d)", 3, 2, 2, 1, 1, 1, 1, 1, 1, 1, 1, 1, 1, BAD);
        row(Due.withPieces(0, 0), "fewest(%d)", 2, 1, 1, 1, 1, 1, 1, 1, 1, 1, 1, 1, 1, BAD);
        // it is so: an EVEN one on L PIECES lets no longer row than that at the ends
        for (int l = 2; l <= 7; l++) {
            WalkTheDike x = Due.withPieces(new int[l]);
            x.night(0, 12);
            x.man(1, l - 1, 10, 0);
            Due.is("a row of " + l, x.often(0, 1), Math.min(2 * l - 3, 11));
        }
    }

    @Says(of = 32, value = "0 for one PIECE)")
    static void fewestOfOne() {
        row(Due.withPieces(0), "fewest(%d)", times(13, 1));
        row(new WalkTheDike(), "fewest(%d)", times(13, 0));
        is(eight(), "fewest(0)", 8);
    }

    @Says(of = 32, value = "is longer than n (0 .. 12).")
    static void fewestOfRows() {
        // just at 2 times L, less 3, and one ahead of it
        row(eight(), "fewest(%d)", 8, 4);
        each(Due.withPieces(0, 0, 0), 1, "fewest(3)", "fewest(4)", "fewest(12)");
        each(Due.withPieces(0, 0, 0), 2, "fewest(1)", "fewest(2)");
        each(Due.withPieces(0, 0, 0, 0, 0, 0, 0), 1, "fewest(11)", "fewest(12)");
        each(Due.withPieces(0, 0, 0, 0, 0, 0, 0), 2, "fewest(9)", "fewest(10)");
    }

    @Says(of = 32, value = "BAD.")
    static void fewestBad() {
        beyond(NEW, "fewest(%d)", 0, 12, BAD);
        beyond(ALL, "fewest(%d)", 0, 12, BAD);
    }

    @Says(of = 33, value = "The first hour in which a MAN doesn't LOOK, and another one does who is in the same PIECE;")
    static void check() {
        WalkTheDike x = Due.withPieces(0, 0, 0);
        x.night(0, 12);
        // asleep in the hours 6 and 13
        x.man(5, 0, 15, 0);
        is(x, "check(0)", -1);
        x.man(0, 0, 10, 0);
        is(x, "check(0)", 6);
        x.night(0, 7);
        is(x, "check(0)", 6);
        x.night(0, 6);
        is(x, "check(0)", -1);
        // of several hours the first
        x.night(0, 12);
        x.man(5, 0, 10, 0);
        is(x, "check(2)", 1);
        // by another sleeper who looks then, and by one of a higher number
        WalkTheDike y = Due.withPieces(0, 0);
        y.man(5, 0, 10, 0);
        y.man(5, 0, 11, 0);
        is(y, "check(0)", 1);
        is(y, "check(1)", 2);
    }

    @Says(of = 33, value = "-1: none.")
    static void checkNone() {
        WalkTheDike x = Due.withPieces(0, 0);
        x.night(0, 12);
        // he LOOKS always; or no other is there; or the other sleeps, too
        x.man(0, 0, 10, 0);
        is(x, "check(0)", -1);
        x.man(5, 11, 10, 0);
        x.man(5, 11, 10, 0);
        is(x, "check(0)", -1);
        is(x, "check(1)", -1);
        is(x, "check(2)", -1);
        // a LAMP, THE VILLAGE are no other MAN
        x.lamp(1, 1);
        x.night(4, 0);
        x.call(0);
        is(x, "check(1)", -1);
    }

    @Says(of = 33, value = "-5: no such MAN.")
    static void checkNoMan() {
        beyond(SOME, "check(%d)", 0, 1, -5);
        beyond(ALL, "check(%d)", 0, 4, -5);
        refused(NEW, -5, "check(0)");
    }
}
