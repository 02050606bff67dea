/** Terms: how many there can be of all, and what numbers they have. */
public final class EdgesOfNumbersTest extends Edges {
    public static void main(String[] args) throws ReflectiveOperationException {
        hold(EdgesOfNumbersTest.class);
    }

    @Says(of = 0, value = "HOURS of a night (1 .. 12 of them, 8 at first) are 0, 1, ..;")
    static void hours() {
        WalkTheDike x = Due.withPieces(0);
        is(x, "count(0)", 8);
        x.lamp(0, 1);
        for (int hours : new int[] {8, 1, 12}) {
            x.night(0, hours);
            is(x, "looked(-1)", BAD);
            is(x, "looked(0)", 1);
            Due.is("the last hour", x.looked(hours - 1), 1);
            Due.is("an hour behind the night", x.looked(hours), BAD);
        }
        within(NEW, "night(0, %d)", 1, 8, 12, 8);
        beyond(NEW, "night(0, %d)", 1, 12, BAD);
    }

    @Says(of = 0, value = "WATER in each of 0 .. 11 (0 .. 9; 0 at first);")
    static void water() {
        WalkTheDike x = new WalkTheDike();
        row(x, "water(%d, 9)", times(12, 0));
        row(x, "water(%d, 0)", times(12, 9));
        beyond(SOME, "water(%d, 0)", 0, 11, NONE);
        beyond(SOME, "water(0, %d)", 0, 9, BAD);
        beyond(SOME, "water(11, %d)", 0, 9, BAD);
    }

    @Says(of = 0, value = "WIND (0 .. 9; 0 at first).")
    static void wind() {
        is(new WalkTheDike(), "count(2)", 0);
        within(SOME, "night(2, %d)", 0, 5, 9, 5);
        beyond(SOME, "night(2, %d)", 0, 9, BAD);
    }

    @Says(of = 0, value = "PIECES are numbered along the dike from 0 on, 8 at most:")
    static void pieces() {
        WalkTheDike x = new WalkTheDike();
        for (int p = 0; p < 8; p++) {
            is(x, "count(5)", p);
            Due.is("not there yet: taken(" + p + ", 6)", x.taken(p, 6), -11);
            Due.is("piece", x.piece(0, p), p);
            Due.is("taken(" + p + ", 6)", x.taken(p, 6), p);
        }
        is(x, "count(5)", 8);
        is(x, "piece(0, 0)", FULL);
    }

    @Says(of = 0, value = "OLD (1) or not (0),")
    static void old() {
        WalkTheDike x = new WalkTheDike();
        is(x, "piece(0, 0)", 0);
        is(x, "piece(1, 0)", 1);
        is(x, "asks(0, 0, 0, 0, 0)", 0);
        is(x, "asks(0, 1, 0, 0, 0)", 20);
        beyond(SOME, "piece(%d, 0)", 0, 1, BAD);
        beyond(SOME, "set(1, 0, %d)", 0, 1, -7);
    }

    @Says(of = 0, value = "WORTH (0 .. 99),")
    static void worth() {
        WalkTheDike x = Due.withPieces(0, 99);
        is(x, "taken(0, 6)", 0);
        is(x, "taken(1, 6)", 99);
        is(x, "set(0, 1, 99)", 0);
        is(x, "set(1, 1, 0)", 99);
        beyond(SOME, "piece(1, %d)", 0, 99, BAD);
        beyond(SOME, "set(1, 1, %d)", 0, 99, -7);
    }

    @Says(of = 0, value = "SACKS (0 .. 3; 0 at first),")
    static void sacks() {
        WalkTheDike x = Due.withPieces(0, 1);
        is(x, "set(0, 2, 3)", 0);
        is(x, "set(1, 2, 3)", 0);
        is(x, "asks(2, 1, 0, 4, 0)", 1);
        is(x, "set(1, 2, 0)", 3);
        is(x, "asks(2, 1, 0, 4, 0)", 4);
        beyond(SOME, "set(1, 2, %d)", 0, 3, -7);
    }

    @Says(of = 0, value = "with a LAMP or not (as at first).")
    static void lamps() {
        WalkTheDike x = eight();
        is(x, "looked(0)", 0);
        row(x, "lamp(%d, 1)", times(8, 0));
        is(x, "looked(0)", 255);
        row(x, "lamp(%d, 0)", times(8, 1));
        is(x, "looked(0)", 0);
        beyond(SOME, "lamp(0, %d)", 0, 1, BAD);
    }

    @Says(of = 0, value = "A hole BREAKS at a step (2 .. 6; 4 at first).")
    static void breaks() {
        is(new WalkTheDike(), "count(1)", 4);
        for (int breaks = 2; breaks <= 6; breaks++) {
            // all holes begin in hour 0, and have step 1 behind it
            WalkTheDike x = night(8, breaks, "risk water*200;seen 0;harm 0;", 0);
            x.water(0, 1);
            Due.is("one hour ahead of it", x.state(0, breaks - 2, breaks - 1), 200000000);
            Due.is("not broken yet", x.state(0, breaks - 2, breaks), 0);
            Due.is("broken", x.state(0, breaks - 1, breaks), 200000000);
        }
        within(SOME, "night(1, %d)", 2, 4, 6, 4);
        beyond(SOME, "night(1, %d)", 2, 6, BAD);
    }

    @Says(of = 0, value = "THE VILLAGE: TRUST (0 .. 8; 4 at first),")
    static void trust() {
        WalkTheDike x = eight();
        x.night(4, 0);
        x.call(0);
        is(x, "count(3)", 4);
        is(x, "looked(0)", 15);
        for (int trust = 0; trust <= 8; trust++) {
            x.night(3, trust);
            Due.is("TRUST " + trust, x.looked(0), (1 << trust) - 1);
        }
        beyond(SOME, "night(3, %d)", 0, 8, BAD);
    }

    @Says(of = 0, value = "COMES in so many hours (0 .. 12; 2 at first),")
    static void comes() {
        WalkTheDike x = eight();
        x.night(0, 12);
        x.call(0);
        is(x, "count(4)", 2);
        row(x, "looked(%d)", 0, 0, 15);
        for (int comes = 0; comes <= 12; comes++) {
            x.night(4, comes);
            for (int h = 0; h < 12; h++) {
                Due.is("COMES " + comes + ": looked(" + h + ")", x.looked(h), h < comes ? 0 : 15);
            }
        }
        beyond(SOME, "night(4, %d)", 0, 12, BAD);
    }

    @Says(of = 0, value = "CALLED in an hour, or not (-1, as at first).")
    static void called() {
        WalkTheDike x = eight();
        x.night(0, 12);
        x.night(4, 0);
        row(x, "looked(%d)", times(12, 0));
        is(x, "call(-1)", -1);
        is(x, "call(0)", -1);
        row(x, "looked(%d)", times(12, 15));
        is(x, "call(-1)", 0);
        row(x, "looked(%d)", times(12, 0));
        beyond(SOME, "call(%d)", -1, 11, BAD);
    }

    @Says(of = 0, value = "MEN are numbered from 0 on, 5 at most:")
    static void men() {
        WalkTheDike x = eight();
        for (int m = 0; m < 5; m++) {
            is(x, "count(6)", m);
            Due.is("not there yet", x.where(m, 0), -5);
            Due.is("man", x.man(0, 11 * m, 10, 0), m);
            Due.is("where", x.where(m, 0), m);
        }
        is(x, "count(6)", 5);
        is(x, "man(0, 0, 10, 0)", FULL);
        is(x, "count(6)", 5);
    }

    @Says(of = 0, value = "a KIND of ROUND, POST and END (PIECES),")
    static void kindAndEnds() {
        within(SOME, "man(%d, 0, 10, 2)", 0, 2, 5, 2);
        beyond(SOME, "man(%d, 0, 10, 2)", 0, 5, BAD);
        // of three PIECES
        within(SOME, "man(0, %d, 10, 0)", 0, 2, 22, 2);
        refused(SOME, BAD, "man(0, -1, 10, 0)", "man(0, 3, 10, 0)", "man(0, 9, 10, 0)", "man(0, 13, 10, 0)",
            "man(0, 23, 10, 0)", "man(0, 30, 10, 0)", "man(0, 100, 10, 0)", "man(0, MIN, 10, 0)", "man(0, MAX, 10, 0)");
        WalkTheDike x = eight();
        is(x, "man(0, 77, 10, 0)", 0);
        each(x, BAD, "man(0, 78, 10, 0)", "man(0, 8, 10, 0)", "man(0, 80, 10, 0)", "man(0, 87, 10, 0)");
    }

    @Says(of = 0, value = "PACE (1 .. 3 PIECES an hour),")
    static void paces() {
        for (int pace = 1; pace <= 3; pace++) {
            WalkTheDike x = eight();
            Due.is("man", x.man(1, 7, 10 * pace, 0), 0);
            way(x, 0, 0, pace, 2 * pace);
        }
        refused(SOME, BAD, "man(1, 2, 0, 0)", "man(1, 2, 9, 0)", "man(1, 2, 40, 0)", "man(1, 2, -10, 0)",
            "man(1, 2, MIN, 0)", "man(1, 2, MAX, 0)");
        within(SOME, "pace(0, %d)", 1, 1, 3, 1);
        beyond(SOME, "pace(0, %d)", 1, 3, BAD);
    }

    @Says(of = 0, value = "MORE (0 .. 5);")
    static void more() {
        within(SOME, "man(5, 2, %d, 0)", 10, 2, 15, 2);
        within(SOME, "man(5, 2, %d, 0)", 30, 2, 35, 2);
        refused(SOME, BAD, "man(5, 2, 16, 0)", "man(5, 2, 19, 0)", "man(5, 2, 26, 0)", "man(5, 2, 36, 0)",
            "man(0, 2, 16, 0)", "man(5, 2, 5, 0)");
    }

    @Says(of = 0, value = "told ones a row of 12 PIECES (0 .. 7).")
    static void toldRow() {
        WalkTheDike x = Due.withPieces(0);
        // 0 .. 7, though there is one PIECE alone
        Due.row(x, 0, 0, 7, 0, 7, 0, 7, 0, 7, 0, 7, 0, 7);
        is(x, "man(3, 0, 10, 0)", 0);
        for (int i : new int[] {0, 11}) {
            for (int v : new int[] {-1, 8, Integer.MIN_VALUE, Integer.MAX_VALUE}) {
                Due.row(x, 0, new int[12]);
                x.cell(0, i, v);
                Due.is(v + " at " + i, x.man(3, 0, 10, 0), BAD);
            }
        }
        for (int size : new int[] {0, 11, 13, 40}) {
            Due.row(x, 0, new int[size]);
            Due.is("a row of " + size, x.man(3, 0, 10, 0), BAD);
        }
        is(x, "count(6)", 1);
    }
}
