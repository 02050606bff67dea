/** Promises 43 to 47. */
public final class EdgesOfHostTest extends Edges {
    public static void main(String[] args) throws ReflectiveOperationException {
        hold(EdgesOfHostTest.class);
    }

    /** Eight PIECES, and SHEET 0 a row of PIECES of a sort. */
    private static WalkTheDike rowOf(int sort, int... numbers) {
        WalkTheDike x = eight();
        x.sheet(0, sort, numbers.length);
        for (int i = 0; i < numbers.length; i++) {
            x.cell(0, i, numbers[i]);
        }
        return x;
    }

    /** The numbers of a SHEET of a sort; -1 is any that is none of 0 .. 7. */
    private static void holds(WalkTheDike x, int s, int sort, int... want) {
        int other = (s + 1) % 4;
        x.night(0, 2);
        x.sheet(other, sort, 2);
        for (int i = 0; i < want.length; i++) {
            int near = 0;
            for (int k = Math.max(0, want[i] - 1); want[i] >= 0 && k <= Math.min(7, want[i] + 1); k++) {
                near |= 1 << k;
            }
            Due.is("near to number " + i + " of SHEET " + s + " (bits)", Seen.near(x, s, i, other), near);
        }
    }

    @Says(of = 43, value = "A SHEET becomes a row of n of a sort, all 0,")
    static void sheet() {
        for (int sort = 0; sort <= 2; sort++) {
            for (int n : new int[] {0, 1, 39, 40}) {
                WalkTheDike x = new WalkTheDike();
                Due.is("a row of " + n, x.sheet(3, sort, n), 1);
                Due.is("the last one", x.cell(3, n - 1, 0), n == 0 ? -12 : 1);
                Due.is("behind the last one", x.cell(3, n, 0), -12);
                Due.is("of its sort", x.piecesBy(3, sort, 0, 0), 0);
                Due.is("of no other", x.piecesBy(3, (sort + 1) % 3, 0, 0), -13);
                Due.is("of no other", x.piecesBy(3, (sort + 2) % 3, 0, 0), -13);
            }
            // all 0 again, also of another size, and behind a missing one
            WalkTheDike y = rowOf(2, 7, 7, 7);
            y.sheet(0, sort, 3);
            holds(y, 0, sort, 0, 0, 0);
            y.cell(0, 2, 5);
            y.sheet(0, sort, 2);
            y.sheet(0, sort, 4);
            holds(y, 0, sort, 0, 0, 0, 0);
            y.cell(0, 2, 5);
            y.sheet(0, -1, 0);
            y.sheet(0, sort, 3);
            holds(y, 0, sort, 0, 0, 0);
        }
        // the others stay
        WalkTheDike z = rowOf(0, 1, 2, 3);
        z.sheet(1, 0, 40);
        z.sheet(3, 2, 40);
        holds(z, 0, 0, 1, 2, 3);
    }

    @Says(of = 43, value = "or missing (sort -1: n does not matter): 1.")
    static void sheetMissing() {
        for (int n : new int[] {0, 1, 40, 41, -1, Integer.MIN_VALUE, Integer.MAX_VALUE}) {
            WalkTheDike x = rowOf(0, 1, 2, 3);
            Due.is("missing, n " + n, x.sheet(0, -1, n), 1);
            is(x, "cell(0, 0, 0)", -11);
            Due.is("missing again, n " + n, x.sheet(0, -1, n), 1);
            is(x, "cell(0, 0, 0)", -11);
        }
        beyond(SOME, "sheet(%d, -1, 0)", 0, 3, BAD);
    }

    @Says(of = 43, value = "BAD: SHEET, sort, n above 40;")
    static void sheetBad() {
        beyond(SOME, "sheet(%d, 0, 1)", 0, 3, BAD);
        beyond(SOME, "sheet(0, %d, 1)", -1, 2, BAD);
        refused(SOME, BAD, "sheet(0, 0, 41)", "sheet(1, 1, 41)", "sheet(2, 2, 41)", "sheet(0, 0, MAX)", "sheet(3, 2, 100)");
        refused(SOME, BAD, "sheet(4, 0, -1)", "sheet(0, 3, -1)", "sheet(0, -2, -1)", "sheet(-1, -1, 0)");
    }

    @Says(of = 43, value = "-14.")
    static void sheetBelow() {
        refused(SOME, -14, "sheet(0, 0, -1)", "sheet(1, 1, -1)", "sheet(2, 2, MIN)", "sheet(3, 0, -40)");
        is(new WalkTheDike(), "sheet(0, 0, 0)", 1);
    }

    @Says(of = 44, value = "Number i of a SHEET becomes v (of bytes, shorts its lowest 8, 16 bits): 1.")
    static void cell() {
        int[] numbers = {7, 256 + 7, 65536 + 7, 0x12340003, -249, -65529, Integer.MIN_VALUE, Integer.MIN_VALUE + 5, 255, 65535};
        int[] bytes = {7, 7, 7, 3, 7, 7, 0, 5, -1, -1};
        int[] shorts = {7, -1, 7, 3, -1, 7, 0, 5, -1, -1};
        int[] ints = {7, -1, -1, -1, -1, -1, -1, -1, -1, -1};
        holds(rowOf(0, numbers), 0, 0, bytes);
        holds(rowOf(1, numbers), 0, 1, shorts);
        holds(rowOf(2, numbers), 0, 2, ints);
        // greater ones, by WORTH and by places()
        WalkTheDike x = new WalkTheDike();
        x.sheet(0, 0, 2);
        x.cell(0, 1, 99 + 512);
        is(x, "piecesBy(0, 0, 0, 1)", 1);
        is(x, "taken(0, 6)", 99);
        x.cell(0, 1, 200);
        is(x, "piecesBy(0, 0, 0, 1)", 0);
        WalkTheDike y = Due.withPieces(0, 0, 0);
        y.sheet(0, 1, 3);
        y.cell(0, 0, 9999 + 131072);
        is(y, "places(0)", 1);
        y.cell(0, 0, 10000);
        is(y, "places(0)", BAD);
        y.cell(0, 0, 32768);
        is(y, "places(0)", BAD);
        y.sheet(0, 0, 3);
        y.cell(0, 0, 127);
        is(y, "places(0)", 1);
        y.cell(0, 0, 128);
        is(y, "places(0)", BAD);
        // the first and the last one, each alone
        WalkTheDike z = rowOf(2, 1, 2, 3, 4);
        is(z, "cell(0, 0, 5)", 1);
        is(z, "cell(0, 3, 6)", 1);
        holds(z, 0, 2, 5, 2, 3, 6);
    }

    @Says(of = 44, value = "BAD: SHEET;")
    static void cellBad() {
        beyond(SOME, "cell(%d, 0, 1)", 0, 3, BAD);
        refused(NEW, BAD, "cell(4, 0, 0)", "cell(-1, 0, 0)");
    }

    @Says(of = 44, value = "-11;")
    static void cellNothing() {
        refused(SOME, -11, "cell(3, 0, 1)", "cell(3, -1, 1)", "cell(3, 40, 1)");
    }

    @Says(of = 44, value = "-12.")
    static void cellOutside() {
        beyond(SOME, "cell(0, %d, 5)", 0, 2, -12);
        beyond(SOME, "cell(1, %d, 5)", 0, 5, -12);
        beyond(SOME, "cell(2, %d, 5)", 0, 11, -12);
        beyond(ALL, "cell(3, %d, 5)", 0, 39, -12);
        WalkTheDike x = new WalkTheDike();
        x.sheet(0, 0, 0);
        each(x, -12, "cell(0, 0, 0)", "cell(0, -1, 0)");
    }

    @Says(of = 45, value = "n numbers of a SHEET, from i on, come to another one's (or its own) place j (as they were): n.")
    static void copy() {
        for (int sort = 0; sort <= 2; sort++) {
            WalkTheDike x = rowOf(sort, 1, 2, 3, 4, 5);
            is(x, "copy(0, 0, 0, 1, 4)", 4);
            holds(x, 0, sort, 1, 1, 2, 3, 4);
            is(x, "copy(0, 1, 0, 0, 4)", 4);
            holds(x, 0, sort, 1, 2, 3, 4, 4);
            is(x, "copy(0, 0, 0, 0, 5)", 5);
            holds(x, 0, sort, 1, 2, 3, 4, 4);
            is(x, "copy(0, 0, 0, 3, 2)", 2);
            holds(x, 0, sort, 1, 2, 3, 1, 2);
            x.sheet(2, sort, 3);
            is(x, "copy(0, 1, 2, 0, 3)", 3);
            holds(x, 2, sort, 2, 3, 1);
            holds(x, 0, sort, 1, 2, 3, 1, 2);
            is(x, "copy(0, 4, 2, 2, 1)", 1);
            holds(x, 2, sort, 2, 3, 2);
        }
        // none, at the ends, too
        WalkTheDike y = rowOf(0, 1, 2);
        y.sheet(1, 0, 0);
        each(y, 0, "copy(0, 0, 0, 0, 0)", "copy(0, 2, 0, 2, 0)", "copy(0, 2, 1, 0, 0)", "copy(1, 0, 1, 0, 0)");
        holds(y, 0, 0, 1, 2);
        // all of forty
        WalkTheDike z = eight();
        z.sheet(0, 2, 40);
        z.sheet(3, 2, 40);
        z.cell(0, 0, 3);
        z.cell(0, 39, 7);
        is(z, "copy(0, 0, 3, 0, 40)", 40);
        is(z, "copy(3, 0, 3, 1, 39)", 39);
        is(z, "copy(3, 39, 3, 0, 1)", 1);
        is(z, "copy(0, 39, 3, 2, 1)", 1);
        holds(z, 3, 2, 0, 3, 7, 0);
    }

    @Says(of = 45, value = "BAD: SHEETS;")
    static void copyBad() {
        beyond(SOME, "copy(%d, 0, 0, 0, 0)", 0, 3, BAD);
        beyond(SOME, "copy(0, 0, %d, 0, 0)", 0, 3, BAD);
        refused(SOME, BAD, "copy(3, 0, 4, 0, 0)", "copy(4, 0, 3, 0, 0)", "copy(4, -1, 4, -1, -1)");
    }

    @Says(of = 45, value = "-11;")
    static void copyNothing() {
        refused(SOME, -11, "copy(3, 0, 3, 0, 0)", "copy(3, 0, 0, 0, 0)", "copy(0, 0, 3, 0, 0)", "copy(0, -1, 3, 99, -1)");
    }

    @Says(of = 45, value = "-13: unlike sorts;")
    static void copyUnlike() {
        refused(SOME, -13, "copy(0, 0, 1, 0, 1)", "copy(1, 0, 0, 0, 1)", "copy(1, 0, 2, 0, 1)", "copy(2, 0, 0, 0, 0)",
            "copy(0, -1, 2, 0, 1)", "copy(0, 0, 1, 0, 40)", "copy(0, 0, 1, 0, -1)");
    }

    @Says(of = 45, value = "-12 (n below 0, too).")
    static void copyOutside() {
        // a row of 6
        refused(SOME, -12, "copy(1, 0, 1, 0, -1)", "copy(1, 0, 1, 0, MIN)", "copy(1, 0, 1, 0, 7)", "copy(1, 0, 1, 0, MAX)",
            "copy(1, 1, 1, 0, 6)", "copy(1, 0, 1, 1, 6)", "copy(1, 6, 1, 0, 1)", "copy(1, 0, 1, 6, 1)", "copy(1, 7, 1, 0, 0)",
            "copy(1, 0, 1, 7, 0)", "copy(1, -1, 1, 0, 1)", "copy(1, 0, 1, -1, 1)", "copy(1, -1, 1, 0, 0)", "copy(1, 0, 1, -1, 0)",
            "copy(1, MAX, 1, 0, 1)", "copy(1, 0, 1, MAX, 1)", "copy(1, MIN, 1, 0, 1)", "copy(1, 0, 1, MIN, 1)",
            "copy(1, MAX, 1, MAX, MAX)", "copy(1, 1, 1, 1, MAX)", "copy(1, MIN, 1, 0, MIN)");
        // rows of 12 and of 40: both ends
        refused(ALL, -12, "copy(2, 0, 3, 29, 12)", "copy(3, 0, 2, 1, 12)", "copy(3, 28, 2, 0, 13)", "copy(3, 29, 2, 0, 12)");
        is(Worlds.full(), "copy(2, 0, 3, 28, 12)", 12);
        is(Worlds.full(), "copy(3, 28, 2, 0, 12)", 12);
    }

    @Says(of = 46, value = "PIECES by a SHEET of a sort: from a place on, two by two (as of piece()), n of them (0 .. 8):")
    static void piecesBy() {
        for (int sort = 0; sort <= 2; sort++) {
            WalkTheDike x = new WalkTheDike();
            x.sheet(0, sort, 7);
            int[] numbers = {1, 10, 0, 20, 1, 99, 0};
            for (int i = 0; i < 7; i++) {
                x.cell(0, i, numbers[i]);
            }
            Due.is("none", x.piecesBy(0, sort, 0, 0), 0);
            is(x, "count(5)", 0);
            Due.is("one", x.piecesBy(0, sort, 0, 1), 1);
            Due.is("two, from 2 on", x.piecesBy(0, sort, 2, 2), 2);
            Due.is("one, from 5 on: 99 is not OLD", x.piecesBy(0, sort, 5, 1), 0);
            Due.is("one, from 4 on", x.piecesBy(0, sort, 4, 1), 1);
            row(x, "taken(%d, 6)", 10, 20, 99, 99, -11);
            row(x, "set(%d, 0, 0)", 1, 0, 1, 1, -5);
            row(x, "set(%d, 2, 0)", 0, 0, 0, 0, -5);
        }
        WalkTheDike y = new WalkTheDike();
        y.sheet(0, 0, 40);
        y.cell(0, 39, 9);
        is(y, "piecesBy(0, 0, 24, 8)", 8);
        row(y, "taken(%d, 6)", 0, 0, 0, 0, 0, 0, 0, 9);
        within(SOME, "piecesBy(2, 2, 0, %d)", 0, 0, 1, 1);
    }

    @Says(of = 46, value = "how many came (others are left out).")
    static void piecesByLeftOut() {
        WalkTheDike x = new WalkTheDike();
        // no PIECE: OLD 2, WORTH 100, OLD -1, WORTH -1
        Due.row(x, 0, 0, 1, 2, 2, 0, 100, -1, 3, 1, -1, 1, 4);
        is(x, "piecesBy(0, 2, 0, 6)", 2);
        row(x, "taken(%d, 6)", 1, 4, -11);
        is(x, "piecesBy(0, 2, 2, 4)", 0);
        // FULL: left out, too
        Due.row(x, 0, 0, 11, 0, 12, 0, 13, 0, 14, 0, 15, 0, 16, 0, 17, 0, 18);
        is(x, "piecesBy(0, 2, 0, 8)", 6);
        row(x, "taken(%d, 6)", 1, 4, 11, 12, 13, 14, 15, 16);
        is(x, "piecesBy(0, 2, 0, 8)", 0);
        is(x, "count(5)", 8);
    }

    @Says(of = 46, value = "BAD: SHEET, sort, n;")
    static void piecesByBad() {
        beyond(SOME, "piecesBy(%d, 0, 0, 1)", 0, 3, BAD);
        beyond(SOME, "piecesBy(2, %d, 0, 1)", 0, 2, BAD);
        beyond(SOME, "piecesBy(2, 2, 0, %d)", 0, 8, BAD);
        // ahead of -11, -13, -12
        refused(SOME, BAD, "piecesBy(3, -1, 0, 0)", "piecesBy(3, 0, 0, 9)", "piecesBy(2, 0, 0, 9)", "piecesBy(2, 2, -1, 9)");
    }

    @Says(of = 46, value = "-11;")
    static void piecesByNothing() {
        refused(SOME, -11, "piecesBy(3, 0, 0, 1)", "piecesBy(3, 1, -1, 0)", "piecesBy(3, 2, 99, 8)");
    }

    @Says(of = 46, value = "-13;")
    static void piecesByUnlike() {
        refused(SOME, -13, "piecesBy(0, 1, 0, 1)", "piecesBy(0, 2, 0, 1)", "piecesBy(1, 0, 0, 1)", "piecesBy(1, 2, 0, 0)",
            "piecesBy(2, 0, -1, 8)", "piecesBy(2, 1, 99, 8)");
    }

    @Says(of = 46, value = "-12: what stood ahead came.")
    static void piecesByOutside() {
        // none stood ahead
        refused(SOME, -12, "piecesBy(0, 0, -1, 1)", "piecesBy(0, 0, 2, 1)", "piecesBy(0, 0, 3, 1)", "piecesBy(2, 2, 11, 8)",
            "piecesBy(2, 2, 12, 1)", "piecesBy(2, 2, MAX, 8)", "piecesBy(2, 2, MIN, 8)", "piecesBy(2, 2, -2, 8)");
        WalkTheDike x = new WalkTheDike();
        Due.row(x, 0, 0, 1, 1, 2, 0, 3, 1);
        is(x, "piecesBy(0, 2, 0, 4)", -12);
        row(x, "taken(%d, 6)", 1, 2, 3, -11);
        is(x, "piecesBy(0, 2, 4, 8)", -12);
        row(x, "taken(%d, 6)", 1, 2, 3, 3, -11);
        is(x, "piecesBy(0, 2, 6, 1)", -12);
        is(x, "piecesBy(0, 2, 7, 1)", -12);
        is(x, "count(5)", 4);
        // just all of it
        is(x, "piecesBy(0, 2, 1, 3)", 1);
        is(x, "count(5)", 5);
        // also of those that are left out
        Due.row(x, 0, 2, 0);
        is(x, "piecesBy(0, 2, 0, 2)", -12);
        is(x, "count(5)", 5);
        WalkTheDike y = Worlds.full();
        is(y, "piecesBy(3, 2, 38, 2)", -12);
        is(y, "piecesBy(3, 2, 38, 1)", 0);
        x.sheet(1, 0, 0);
        is(x, "piecesBy(1, 0, 0, 1)", -12);
    }

    @Says(of = 47, value = "What lies at place i: 0 .. 7 PIECES, 8 .. 12 MEN,")
    static void taken() {
        WalkTheDike x = Due.withPieces(10, 11, 12, 13, 14, 15, 16, 17);
        for (int m = 0; m < 5; m++) {
            x.man(0, 0, 10, 0);
        }
        row(x, "taken(%d, 6)", 10, 11, 12, 13, 14, 15, 16, 17, -13, -13, -13, -13, -13, -12);
        row(x, "taken(%d, 0)", -13, -13, -13, -13, -13, -13, -13, -13, 0, 1, 2, 3, 4, -12);
    }

    @Says(of = 47, value = "taken for 0 .. 5 a MAN whose ROUND is of that KIND (also of one that is one): his number;")
    static void takenMen() {
        // by KIND of the MAN: what he is taken for
        String[] are = {"0", "01", "02", "03", "014", "015"};
        for (int kind = 0; kind < 6; kind++) {
            WalkTheDike x = Due.withPieces(0);
            Due.row(x, 0, new int[12]);
            x.man(0, 0, 10, 0);
            x.man(kind, 0, 10, 0);
            for (int as = 0; as < 6; as++) {
                is(x, "taken(9, " + as + ")", are[kind].indexOf('0' + as) >= 0 ? 1 : -13);
            }
            is(x, "taken(9, 6)", -13);
        }
    }

    @Says(of = 47, value = "6 a PIECE: its WORTH.")
    static void takenPieces() {
        WalkTheDike x = Due.withPieces(0, 99);
        row(x, "taken(%d, 6)", 0, 99, -11);
        x.set(0, 1, 5);
        row(x, "taken(%d, 6)", 5, 99, -11);
        row(x, "taken(1, %d)", -13, -13, -13, -13, -13, -13, 99, BAD);
    }

    @Says(of = 47, value = "BAD: kind;")
    static void takenBad() {
        beyond(SOME, "taken(0, %d)", 0, 6, BAD);
        beyond(SOME, "taken(8, %d)", 0, 6, BAD);
        refused(SOME, BAD, "taken(13, 7)", "taken(-1, -1)", "taken(3, 7)");
    }

    @Says(of = 47, value = "-12: i;")
    static void takenOutside() {
        beyond(NEW, "taken(%d, 0)", 0, 12, -12);
        beyond(SOME, "taken(%d, 6)", 0, 12, -12);
        beyond(ALL, "taken(%d, 1)", 0, 12, -12);
    }

    @Says(of = 47, value = "-11: nothing lies there;")
    static void takenNothing() {
        row(new WalkTheDike(), "taken(%d, 6)", -11, -11, -11, -11, -11, -11, -11, -11, -11, -11, -11, -11, -11, -12);
        // three PIECES, two MEN
        refused(SOME, -11, "taken(3, 6)", "taken(7, 6)", "taken(10, 0)", "taken(12, 0)", "taken(3, 0)", "taken(10, 6)");
    }

    @Says(of = 47, value = "-13.")
    static void takenUnlike() {
        refused(SOME, -13, "taken(0, 0)", "taken(0, 5)", "taken(2, 3)", "taken(8, 6)", "taken(8, 2)", "taken(8, 3)", "taken(8, 4)",
            "taken(8, 5)", "taken(9, 1)", "taken(9, 2)", "taken(9, 4)", "taken(9, 5)");
        is(Worlds.some(), "taken(8, 1)", 0);
        is(Worlds.some(), "taken(9, 3)", 1);
    }
}
