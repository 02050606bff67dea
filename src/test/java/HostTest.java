/** Promises 43 to 47: SHEETS, PIECES by them, what lies at a place. */
public final class HostTest {
    public static void main(String[] args) {
        sheet();
        cell();
        copy();
        piecesBy();
        taken();
        Due.end();
    }

    private static void sheet() {
        WalkTheDike x = new WalkTheDike();
        Due.is("sheet(4, 0, 0)", x.sheet(4, 0, 0), WalkTheDike.BAD);
        Due.is("sheet(-1, 0, -1)", x.sheet(-1, 0, -1), WalkTheDike.BAD);
        Due.is("sheet(0, 3, 0)", x.sheet(0, 3, 0), WalkTheDike.BAD);
        Due.is("sheet(0, -2, -1)", x.sheet(0, -2, -1), WalkTheDike.BAD);
        Due.is("sheet(0, 0, 41)", x.sheet(0, 0, 41), WalkTheDike.BAD);
        Due.is("sheet(0, 0, -1)", x.sheet(0, 0, -1), -14);
        Due.is("still missing", x.cell(0, 0, 0), -11);
        Due.is("sheet(0, 2, 40)", x.sheet(0, 2, 40), 1);
        Due.is("cell 39", x.cell(0, 39, 5), 1);
        Due.is("cell 40", x.cell(0, 40, 5), -12);
        Due.is("a refusal changes nothing", x.sheet(0, 0, -1), -14);
        Due.is("cell 39", x.cell(0, 39, 5), 1);
        Due.is("sheet(3, 0, 0)", x.sheet(3, 0, 0), 1);
        Due.is("an empty row", x.cell(3, 0, 0), -12);
        // all 0 again
        Due.row(x, 1, 1, 50, 1, 50);
        x.sheet(1, 2, 4);
        Due.is("pieces of 0", x.piecesBy(1, 2, 0, 2), 2);
        Due.is("WORTH", x.taken(1, 6), 0);
        Due.is("missing, n above 40", x.sheet(1, -1, 99), 1);
        Due.is("missing", x.cell(1, 0, 0), -11);
        Due.is("missing again, n below 0", x.sheet(1, -1, -99), 1);
        x.sheet(1, 2, 4);
        Due.is("0 behind missing, too", x.piecesBy(1, 2, 0, 1), 1);
        Due.is("WORTH", x.taken(2, 6), 0);
    }

    /** What stands at a place of a SHEET, by a PIECE's WORTH; only 0 .. 99. */
    private static int stands(WalkTheDike x, int s, int sort, int i) {
        WalkTheDike y = x;
        int p = y.count(5);
        y.sheet(3, sort, 2);
        y.copy(s, i, 3, 1, 1);
        return y.piecesBy(3, sort, 0, 1) == 1 ? y.taken(p, 6) : -1;
    }

    private static void cell() {
        WalkTheDike x = new WalkTheDike();
        Due.is("cell(4, 0, 0)", x.cell(4, 0, 0), WalkTheDike.BAD);
        Due.is("cell(-1, 0, 0)", x.cell(-1, 0, 0), WalkTheDike.BAD);
        Due.is("cell(0, -1, 0)", x.cell(0, -1, 0), -11);
        x.sheet(0, 0, 3);
        x.sheet(1, 1, 3);
        x.sheet(2, 2, 3);
        for (int s = 0; s < 3; s++) {
            Due.is("cell(-1)", x.cell(s, -1, 0), -12);
            Due.is("cell(3)", x.cell(s, 3, 0), -12);
            Due.is("cell(0)", x.cell(s, 0, 65536 + 256 + 44), 1);
        }
        Due.is("the lowest 8 bits", stands(x, 0, 0, 0), 44);
        Due.is("the lowest 16 bits are 300", stands(x, 1, 1, 0), -1);
        x.cell(1, 0, 65536 + 44);
        Due.is("the lowest 16 bits", stands(x, 1, 1, 0), 44);
        x.cell(2, 0, 65536 + 44);
        Due.is("an int stays", stands(x, 2, 2, 0), -1);
        x.cell(2, 2, 44);
        Due.is("an int", stands(x, 2, 2, 2), 44);
        Due.is("the others are 0", stands(x, 2, 2, 1), 0);
    }

    private static void copy() {
        WalkTheDike x = new WalkTheDike();
        Due.is("copy(4, ..)", x.copy(4, 0, 0, 0, 0), WalkTheDike.BAD);
        Due.is("copy(0, 0, 4, ..)", x.copy(0, 0, 4, 0, 0), WalkTheDike.BAD);
        Due.is("copy(-1, ..)", x.copy(-1, 0, 0, 0, 0), WalkTheDike.BAD);
        Due.is("nothing there", x.copy(0, 0, 1, 0, 0), -11);
        x.sheet(0, 2, 5);
        Due.is("nothing there", x.copy(0, 0, 1, 0, 0), -11);
        Due.is("nothing there", x.copy(1, 0, 0, 0, 0), -11);
        x.sheet(1, 1, 5);
        Due.is("unlike sorts", x.copy(0, -1, 1, 0, 0), -13);
        x.sheet(1, 2, 3);
        int[][] outside = {{-1, 0, 1}, {0, -1, 1}, {0, 0, -1}, {0, 0, 4}, {3, 0, 3}, {0, 1, 3}, {5, 0, 1},
            {6, 0, 0}, {0, 4, 0}, {2147483647, 0, 1}, {0, 2147483647, 1}, {1, 1, 2147483647}, {-2147483648, 0, 2}};
        for (int[] o : outside) {
            Due.is("outside", x.copy(0, o[0], 1, o[1], o[2]), -12);
        }
        Due.is("none at the end", x.copy(0, 5, 1, 3, 0), 0);
        Due.row(x, 0, 11, 12, 13, 14, 15);
        Due.is("three", x.copy(0, 2, 1, 0, 3), 3);
        Due.is("the first of them", stands(x, 1, 2, 0), 13);
        Due.is("the last of them", stands(x, 1, 2, 2), 15);
        Due.is("its own, forwards", x.copy(0, 0, 0, 1, 4), 4);
        Due.is("as they were", stands(x, 0, 2, 2), 12);
        Due.is("as they were", stands(x, 0, 2, 4), 14);
        Due.is("its own, backwards", x.copy(0, 2, 0, 0, 3), 3);
        Due.is("as they were", stands(x, 0, 2, 0), 12);
        Due.is("as they were", stands(x, 0, 2, 2), 14);
    }

    private static void piecesBy() {
        WalkTheDike x = new WalkTheDike();
        Due.is("piecesBy(4, ..)", x.piecesBy(4, 0, 0, 0), WalkTheDike.BAD);
        Due.is("piecesBy(-1, ..)", x.piecesBy(-1, 0, 0, 0), WalkTheDike.BAD);
        Due.is("sort 3", x.piecesBy(0, 3, 0, 0), WalkTheDike.BAD);
        Due.is("sort -1", x.piecesBy(0, -1, 0, 0), WalkTheDike.BAD);
        Due.is("n 9", x.piecesBy(0, 0, 0, 9), WalkTheDike.BAD);
        Due.is("n -1", x.piecesBy(0, 0, 0, -1), WalkTheDike.BAD);
        Due.is("nothing there", x.piecesBy(0, 0, 0, 1), -11);
        Due.row(x, 0, 1, 10, 0, 20, 2, 30, 0, 100, 1, 40, 0);
        Due.is("of another sort", x.piecesBy(0, 1, -1, 1), -13);
        Due.is("of another sort", x.piecesBy(0, 0, 0, 1), -13);
        Due.is("none", x.piecesBy(0, 2, 0, 0), 0);
        Due.is("those that are no pieces are left out", x.piecesBy(0, 2, 0, 5), 3);
        Due.is("count(5)", x.count(5), 3);
        int[] worths = {10, 20, 40};
        for (int p = 0; p < 3; p++) {
            Due.is("WORTH", x.taken(p, 6), worths[p]);
        }
        Due.is("OLD", x.set(0, 0, 0), 1);
        Due.is("not OLD", x.set(1, 0, 0), 0);
        Due.is("from a place on", x.piecesBy(0, 2, 8, 1), 1);
        Due.is("two by two", x.piecesBy(0, 2, 9, 1), 0);
        Due.is("half a pair", x.piecesBy(0, 2, 10, 1), -12);
        Due.is("none of it came", x.count(5), 4);
        Due.is("what stood ahead came", x.piecesBy(0, 2, 8, 2), -12);
        Due.is("count(5)", x.count(5), 5);
        Due.is("ahead of the row", x.piecesBy(0, 2, -1, 2), -12);
        Due.is("behind the row", x.piecesBy(0, 2, 11, 1), -12);
        Due.is("far behind the row", x.piecesBy(0, 2, 2147483647, 8), -12);
        Due.is("far ahead of the row", x.piecesBy(0, 2, -2147483648, 8), -12);
        Due.is("count(5)", x.count(5), 5);
        x.sheet(1, 0, 16);
        Due.is("as many as there is room for", x.piecesBy(1, 0, 0, 8), 3);
        Due.is("no room", x.piecesBy(1, 0, 0, 8), 0);
        Due.is("no room, and outside", x.piecesBy(1, 0, 2, 8), -12);
        Due.is("count(5)", x.count(5), 8);
    }

    private static void taken() {
        WalkTheDike x = Due.withPieces(11, 22);
        x.man(3 - 3, 0, 10, 0);
        x.man(1, 0, 10, 0);
        x.man(2, 0, 10, 0);
        x.man(4, 0, 10, 0);
        x.man(5, 0, 10, 0);
        String[] mays = {"0", "01", "02", "014", "015"};
        for (int m = 0; m < 5; m++) {
            for (int kind = 0; kind < 7; kind++) {
                Due.is("taken(" + (8 + m) + ", " + kind + ")", x.taken(8 + m, kind),
                    mays[m].indexOf('0' + kind) >= 0 ? m : -13);
            }
        }
        for (int kind = 0; kind < 6; kind++) {
            Due.is("a piece is no man", x.taken(1, kind), -13);
        }
        Due.is("a piece", x.taken(0, 6), 11);
        Due.is("a piece", x.taken(1, 6), 22);
        Due.is("nothing lies there", x.taken(2, 6), -11);
        Due.is("nothing lies there", x.taken(7, 0), -11);
        Due.is("outside", x.taken(13, 6), -12);
        Due.is("outside", x.taken(-1, 6), -12);
        Due.is("kind 7", x.taken(0, 7), WalkTheDike.BAD);
        Due.is("kind -1", x.taken(99, -1), WalkTheDike.BAD);
        WalkTheDike y = Due.withPieces(0);
        Due.row(y, 0, 0, 0, 0, 0, 0, 0, 0, 0, 0, 0, 0, 0);
        y.man(3, 0, 10, 0);
        for (int kind = 0; kind < 7; kind++) {
            Due.is("a told one for " + kind, y.taken(8, kind), kind == 0 || kind == 3 ? 0 : -13);
        }
        Due.is("no second man", y.taken(9, 0), -11);
        Due.is("no man at all", new WalkTheDike().taken(8, 0), -11);
    }
}
