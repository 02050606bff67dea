/** Promises 11 to 17. */
public final class EdgesOfMenTest extends Edges {
    public static void main(String[] args) throws ReflectiveOperationException {
        hold(EdgesOfMenTest.class);
    }

    @Says(of = 11, value = "A MAN (ends: 10 times POST, and END; rest: 10 times PACE, and MORE;")
    static void man() {
        WalkTheDike x = eight();
        int[][] men = {{0, 0, 10}, {1, 7, 35}, {2, 70, 20}, {4, 77, 15}, {5, 36, 31}};
        for (int m = 0; m < 5; m++) {
            Due.is("man", x.man(men[m][0], men[m][1], men[m][2], 0), m);
            row(x, "manTold(" + m + ", %d)", men[m][0], men[m][1] / 10, men[m][1] % 10, men[m][2] / 10, men[m][2] % 10);
        }
    }

    @Says(of = 11, value = "of KIND 3 by a SHEET of 12 PIECES 0 .. 7;")
    static void manBySheet() {
        for (int sort = 0; sort <= 2; sort++) {
            for (int s = 0; s < 4; s++) {
                WalkTheDike x = Due.withPieces(0);
                x.sheet(s, sort, 12);
                x.cell(s, 0, 7);
                x.cell(s, 5, 1);
                x.cell(s, 11, 7);
                Due.is("a told one by SHEET " + s, x.man(3, 0, 10, s), 0);
                // he keeps his row, whatever becomes of the SHEET
                x.sheet(s, -1, 0);
                row(x, "manTold(0, %d)", 3, 0, 0, 1, 0, 7, 0, 0, 0, 0, 1, 0, 0, 0, 0, 0, 7);
            }
        }
    }

    @Says(of = 11, value = "of others the SHEET does not matter):")
    static void manByNoSheet() {
        for (int kind : new int[] {0, 1, 2, 4, 5}) {
            for (int s : new int[] {0, 3, -1, 4, Integer.MIN_VALUE, Integer.MAX_VALUE}) {
                WalkTheDike x = Due.withPieces(0);
                Due.row(x, 0, 1, 2, 3);
                Due.is("KIND " + kind + " by SHEET " + s, x.man(kind, 0, 10, s), 0);
            }
        }
    }

    @Says(of = 11, value = "his number.")
    static void manNumber() {
        WalkTheDike x = eight();
        Due.row(x, 0, new int[12]);
        for (int m = 0; m < 5; m++) {
            is(x, "man(" + (m + 1) % 6 + ", 0, 10, 0)", m);
            is(x, "count(6)", m + 1);
        }
    }

    @Says(of = 11, value = "BAD: KIND, ends, rest, of KIND 3 SHEET;")
    static void manBad() {
        beyond(SOME, "man(%d, 0, 10, 2)", 0, 5, BAD);
        refused(SOME, BAD, "man(0, -1, 10, 0)", "man(0, 3, 10, 0)", "man(0, 23, 10, 0)", "man(0, 30, 10, 0)", "man(0, 32, 10, 0)",
            "man(0, MIN, 10, 0)", "man(0, MAX, 10, 0)");
        refused(SOME, BAD, "man(0, 0, 0, 0)", "man(0, 0, 9, 0)", "man(0, 0, 16, 0)", "man(0, 0, 29, 0)", "man(0, 0, 36, 0)",
            "man(0, 0, 40, 0)", "man(0, 0, -10, 0)", "man(0, 0, MIN, 0)", "man(0, 0, MAX, 0)");
        beyond(SOME, "man(3, 0, 10, %d)", 0, 3, BAD);
        // of no PIECES none is POST
        refused(NEW, BAD, "man(0, 0, 10, 0)", "man(5, 0, 10, 0)");
    }

    @Says(of = 11, value = "-11;")
    static void manNothing() {
        refused(SOME, -11, "man(3, 0, 10, 3)", "man(3, 22, 35, 3)");
        refused(SOME, BAD, "man(3, 0, 9, 3)", "man(3, 3, 10, 3)", "man(6, 0, 10, 3)");
    }

    @Says(of = 11, value = "BAD: its size, a number;")
    static void manBadRow() {
        for (int size = 0; size <= 40; size++) {
            WalkTheDike x = Due.withPieces(0);
            x.sheet(0, 0, size);
            Due.is("a row of " + size, x.man(3, 0, 10, 0), size == 12 ? 0 : BAD);
            Due.is("MEN then", x.count(6), size == 12 ? 1 : 0);
        }
        for (int i = 0; i < 12; i++) {
            for (int v : new int[] {-1, 8, Integer.MIN_VALUE, Integer.MAX_VALUE}) {
                WalkTheDike x = Due.withPieces(0);
                x.sheet(0, 2, 12);
                x.cell(0, i, v);
                Due.is(v + " at " + i, x.man(3, 0, 10, 0), BAD);
                Due.is("MEN then", x.count(6), 0);
            }
        }
        refused(SOME, BAD, "man(3, 0, 10, 0)", "man(3, 0, 10, 1)");
    }

    @Says(of = 11, value = "FULL.")
    static void manFull() {
        refused(ALL, FULL, "man(0, 0, 10, 0)", "man(1, 77, 35, -1)", "man(2, 7, 20, 9)", "man(3, 0, 10, 2)", "man(4, 70, 10, 0)",
            "man(5, 0, 15, 0)");
        refused(ALL, BAD, "man(6, 0, 10, 0)", "man(0, 8, 10, 0)", "man(0, 0, 16, 0)", "man(3, 0, 10, 4)", "man(3, 0, 10, 0)");
    }

    @Says(of = 12, value = "PACE of a MAN: what it was.")
    static void pace() {
        WalkTheDike x = eight();
        for (int m = 0; m < 5; m++) {
            x.man(1, 7, 10, 0);
        }
        for (int m = 0; m < 5; m += 4) {
            is(x, "pace(" + m + ", 3)", 1);
            way(x, m, 0, 3, 6, 7, 4, 1, 0, 3);
            is(x, "pace(" + m + ", 1)", 3);
            is(x, "pace(" + m + ", 2)", 1);
            is(x, "pace(" + m + ", 2)", 2);
            way(x, m, 0, 2, 4, 6, 7, 5, 3, 1);
        }
        way(x, 1, 0, 1, 2, 3, 4, 5, 6, 7);
    }

    @Says(of = 12, value = "NONE;")
    static void paceNone() {
        beyond(SOME, "pace(%d, 1)", 0, 1, NONE);
        beyond(ALL, "pace(%d, 1)", 0, 4, NONE);
        refused(NEW, NONE, "pace(0, 1)", "pace(0, 0)", "pace(0, 4)");
    }

    @Says(of = 12, value = "BAD.")
    static void paceBad() {
        beyond(SOME, "pace(0, %d)", 1, 3, BAD);
        beyond(ALL, "pace(4, %d)", 1, 3, BAD);
    }

    @Says(of = 13, value = "Of a MAN what 0 KIND, 1 POST, 2 END, 3 PACE, 4 MORE,"
        + " 5 .. 16 what is told for hour what less 5")
    static void manTold() {
        WalkTheDike x = eight();
        Due.row(x, 0, 7, 6, 5, 4, 3, 2, 1, 0, 1, 2, 3, 4);
        x.man(3, 16, 24, 0);
        row(x, "manTold(0, %d)", 3, 1, 6, 2, 4, 7, 6, 5, 4, 3, 2, 1, 0, 1, 2, 3, 4, -7);
        // of the hours behind the night, too
        x.night(0, 1);
        is(x, "manTold(0, 16)", 4);
        x.pace(0, 3);
        is(x, "manTold(0, 3)", 3);
        // each of five has a row of his own
        WalkTheDike y = eight();
        for (int m = 0; m < 5; m++) {
            Due.row(y, 0, m, m, m + 1, m + 1, m + 2, m + 2, m + 3, m + 3, 0, 1, 2, m);
            Due.is("a told one", y.man(3, 11 * m, 30, 0), m);
        }
        for (int m = 0; m < 5; m++) {
            row(y, "manTold(" + m + ", %d)", 3, m, m, 3, 0, m, m, m + 1, m + 1, m + 2, m + 2, m + 3, m + 3, 0, 1, 2, m, -7);
            way(y, m, m, m, m + 1, m + 1, m + 2, m + 2, m + 3, m + 3);
        }
    }

    @Says(of = 13, value = "(0 of other KINDS).")
    static void manToldOthers() {
        for (int kind : new int[] {0, 1, 2, 4, 5}) {
            WalkTheDike x = eight();
            Due.row(x, 0, 7, 6, 5, 4, 3, 2, 1, 1, 1, 2, 3, 4);
            x.man(kind, 77, 35, 0);
            row(x, "manTold(0, %d)", kind, 7, 7, 3, 5, 0, 0, 0, 0, 0, 0, 0, 0, 0, 0, 0, 0, -7);
        }
    }

    @Says(of = 13, value = "-5: no such MAN;")
    static void manToldNone() {
        beyond(SOME, "manTold(%d, 0)", 0, 1, -5);
        beyond(ALL, "manTold(%d, 16)", 0, 4, -5);
        refused(NEW, -5, "manTold(0, 0)", "manTold(0, 17)", "manTold(0, -1)");
    }

    @Says(of = 13, value = "-7: what.")
    static void manToldNotAsTold() {
        beyond(SOME, "manTold(0, %d)", 0, 16, -7);
        beyond(SOME, "manTold(1, %d)", 0, 16, -7);
    }

    @Says(of = 14, value = "Where a MAN is in an hour of the night.")
    static void where() {
        WalkTheDike x = eight();
        x.man(1, 7, 10, 0);
        x.man(0, 77, 10, 0);
        way(x, 0, 0, 1, 2, 3, 4, 5, 6, 7, -7);
        way(x, 1, 7, 7, 7, 7, 7, 7, 7, 7, -7);
        x.night(0, 12);
        way(x, 0, 0, 1, 2, 3, 4, 5, 6, 7, 6, 5, 4, 3, -7);
        x.night(0, 1);
        way(x, 0, 0, -7);
    }

    @Says(of = 14, value = "-5: no such MAN;")
    static void whereNone() {
        beyond(SOME, "where(%d, 0)", 0, 1, -5);
        beyond(ALL, "where(%d, 11)", 0, 4, -5);
        refused(NEW, -5, "where(0, 0)", "where(0, 8)", "where(0, -1)");
    }

    @Says(of = 14, value = "-7: hour.")
    static void whereNotAsTold() {
        beyond(SOME, "where(0, %d)", 0, 7, -7);
        beyond(ALL, "where(4, %d)", 0, 11, -7);
    }

    @Says(of = 15, value = "PIECES (bits) that are LOOKED AT in an hour of the night.")
    static void looked() {
        WalkTheDike x = eight();
        row(x, "looked(%d)", 0, 0, 0, 0, 0, 0, 0, 0, BAD);
        x.man(1, 7, 10, 0);
        row(x, "looked(%d)", 1, 2, 4, 8, 16, 32, 64, 128, BAD);
        row(x, "lamp(%d, 1)", times(8, 0));
        row(x, "looked(%d)", 255, 255, 255, 255, 255, 255, 255, 255, BAD);
        WalkTheDike y = new WalkTheDike();
        y.night(0, 12);
        row(y, "looked(%d)", 0, 0, 0, 0, 0, 0, 0, 0, 0, 0, 0, 0, BAD);
    }

    @Says(of = 15, value = "BAD.")
    static void lookedBad() {
        beyond(NEW, "looked(%d)", 0, 7, BAD);
        beyond(ALL, "looked(%d)", 0, 11, BAD);
    }

    @Says(of = 16, value = "What 0 in how many hours a PIECE is LOOKED AT,")
    static void oftenHours() {
        WalkTheDike x = eight();
        x.night(0, 12);
        is(x, "often(7, 0)", 0);
        x.man(1, 7, 10, 0);
        // 0 1 2 3 4 5 6 7 6 5 4 3
        row(x, "often(%d, 0)", 1, 1, 1, 2, 2, 2, 2, 1, -5);
        // twice in an hour is one hour
        x.man(1, 7, 10, 0);
        row(x, "often(%d, 0)", 1, 1, 1, 2, 2, 2, 2, 1, -5);
        x.lamp(7, 1);
        is(x, "often(7, 0)", 12);
        x.night(0, 1);
        row(x, "often(%d, 0)", 1, 0, 0, 0, 0, 0, 0, 1, -5);
    }

    @Says(of = 16, value = "1 the longest row of hours in which it isn't.")
    static void oftenRow() {
        WalkTheDike x = eight();
        x.night(0, 12);
        row(x, "often(%d, 1)", 12, 12, 12, 12, 12, 12, 12, 12, -5);
        x.man(1, 7, 10, 0);
        // 0 .. 7 and back to 3: ahead of the first look, between two, behind the last
        row(x, "often(%d, 1)", 11, 10, 9, 7, 5, 5, 6, 7, -5);
        x.lamp(0, 1);
        is(x, "often(0, 1)", 0);
        x.night(0, 1);
        row(x, "often(%d, 1)", 0, 1, 1, 1, 1, 1, 1, 1, -5);
        // one that ends with the night
        x.night(0, 12);
        x.call(0);
        x.night(3, 2);
        x.night(4, 3);
        is(x, "often(1, 1)", 1);
        WalkTheDike y = Due.withPieces(0, 0);
        y.man(1, 1, 10, 0);
        is(y, "often(0, 1)", 1);
        is(y, "often(1, 1)", 1);
    }

    @Says(of = 16, value = "-5: no such PIECE;")
    static void oftenNone() {
        beyond(SOME, "often(%d, 0)", 0, 2, -5);
        beyond(ALL, "often(%d, 1)", 0, 7, -5);
        refused(NEW, -5, "often(0, 0)", "often(0, 2)", "often(0, -1)");
    }

    @Says(of = 16, value = "-7: what.")
    static void oftenNotAsTold() {
        beyond(SOME, "often(0, %d)", 0, 1, -7);
    }

    @Says(of = 17, value = "The first hour in which two MEN are in one PIECE;")
    static void meet() {
        WalkTheDike x = eight();
        x.night(0, 12);
        x.man(1, 7, 10, 0);
        x.man(0, 77, 10, 0);
        x.man(0, 0, 10, 0);
        x.man(4, 6, 10, 0);
        // asleep in the hours 1, 3, 5, 7, ..: he need not LOOK
        x.man(5, 7, 10, 0);
        is(x, "meet(0, 2)", 0);
        is(x, "meet(0, 1)", 7);
        is(x, "meet(1, 0)", 7);
        is(x, "meet(0, 3)", 3);
        is(x, "meet(3, 2)", 6);
        is(x, "meet(4, 2)", 0);
        is(x, "meet(4, 3)", 4);
        // in the last hour of the night, and not behind it
        x.night(0, 8);
        is(x, "meet(0, 1)", 7);
        x.night(0, 7);
        is(x, "meet(0, 1)", -1);
        is(x, "meet(2, 3)", 6);
        x.night(0, 6);
        is(x, "meet(2, 3)", -1);
    }

    @Says(of = 17, value = "-1: none.")
    static void meetNever() {
        WalkTheDike x = eight();
        x.night(0, 12);
        x.man(0, 0, 10, 0);
        x.man(0, 11, 10, 0);
        is(x, "meet(0, 1)", -1);
        // they pass each other between two PIECES
        WalkTheDike y = Due.withPieces(0, 0);
        y.night(0, 12);
        y.man(1, 1, 10, 0);
        y.man(4, 1, 10, 0);
        is(y, "meet(0, 1)", -1);
        is(y, "meet(1, 0)", -1);
    }

    @Says(of = 17, value = "-5: MEN (alike, too).")
    static void meetNone() {
        beyond(SOME, "meet(%d, 0)", 0, 1, -5);
        beyond(SOME, "meet(0, %d)", 0, 1, -5);
        beyond(ALL, "meet(%d, 0)", 0, 4, -5);
        beyond(ALL, "meet(0, %d)", 0, 4, -5);
        refused(SOME, -5, "meet(0, 0)", "meet(1, 1)", "meet(2, 2)", "meet(-1, -1)");
        refused(NEW, -5, "meet(0, 0)", "meet(0, 1)");
        within(ALL, "meet(4, %d)", 0, Worlds.full().meet(0, 4), 3, Worlds.full().meet(3, 4));
    }
}
