/** Promises 1 to 6. */
public final class PiecesTest {
    public static void main(String[] args) {
        aNewObject();
        piece();
        set();
        night();
        water();
        count();
        Due.end();
    }

    private static void aNewObject() {
        WalkTheDike x = new WalkTheDike();
        int[] first = {8, 4, 0, 4, 2, 0, 0, 1, 0, 0};
        for (int what = 0; what < first.length; what++) {
            Due.is("new count(" + what + ")", x.count(what), first[what]);
        }
        Due.is("new call(-1)", x.call(-1), -1);
        for (int h = 0; h < 12; h++) {
            Due.is("new water(" + h + ", 0)", x.water(h, 0), 0);
        }
        Due.is("new back()", x.back(), WalkTheDike.STATE);
        Due.is("new run(0)", x.run(0), 0);
        for (int s = 0; s < 4; s++) {
            Due.is("new cell(" + s + ", 0, 0)", x.cell(s, 0, 0), -11);
        }
        // THE LAW of a new object
        x.piece(1, 7);
        x.water(2, 5);
        Due.is("RISK by the first law", x.asks(0, 0, 2, 3, 0), 43);
        Due.is("SEEN by the first law", x.asks(1, 0, 2, 3, 2), 55);
        Due.is("HARM by the first law", x.asks(2, 0, 2, 3, 0), 21);
    }

    private static void piece() {
        WalkTheDike x = new WalkTheDike();
        Due.is("piece(-1, 0)", x.piece(-1, 0), WalkTheDike.BAD);
        Due.is("piece(2, 0)", x.piece(2, 0), WalkTheDike.BAD);
        Due.is("piece(0, -1)", x.piece(0, -1), WalkTheDike.BAD);
        Due.is("piece(0, 100)", x.piece(0, 100), WalkTheDike.BAD);
        Due.is("count(5)", x.count(5), 0);
        for (int p = 0; p < 8; p++) {
            Due.is("piece", x.piece(p % 2, p == 0 ? 0 : 99), p);
            Due.is("count(5)", x.count(5), p + 1);
        }
        Due.is("a ninth piece", x.piece(0, 0), WalkTheDike.FULL);
        Due.is("a ninth piece of no kind", x.piece(0, 100), WalkTheDike.BAD);
        Due.is("count(5)", x.count(5), 8);
        Due.is("it has no SACKS", x.set(7, 2, 0), 0);
        Due.is("it has no LAMP", x.lamp(7, 0), 0);
        Due.is("it is OLD", x.set(7, 0, 0), 1);
        Due.is("its WORTH", x.set(7, 1, 0), 99);
        Due.is("WORTH of the first", x.set(0, 1, 1), 0);
    }

    private static void set() {
        WalkTheDike x = Due.withPieces(5);
        Due.is("set(1, 0, 0)", x.set(1, 0, 0), -5);
        Due.is("set(-1, 9, 9)", x.set(-1, 9, 9), -5);
        Due.is("set(0, 3, 0)", x.set(0, 3, 0), -7);
        Due.is("set(0, -1, 0)", x.set(0, -1, 0), -7);
        int[] most = {1, 99, 3};
        int[] was = {0, 5, 0};
        for (int what = 0; what < 3; what++) {
            Due.is("set below", x.set(0, what, -1), -7);
            Due.is("set above", x.set(0, what, most[what] + 1), -7);
            Due.is("set most", x.set(0, what, most[what]), was[what]);
            Due.is("set least", x.set(0, what, 0), most[what]);
            Due.is("set again", x.set(0, what, 1), 0);
        }
        Due.is("OLD tells", x.asks(0, 0, 0, 1, 0), 21);
        Due.is("WORTH and SACKS tell", x.asks(2, 0, 0, 4, 0), 3);
        x.set(0, 1, 50);
        x.set(0, 0, 0);
        Due.is("OLD tells", x.asks(0, 0, 0, 1, 0), 1);
        Due.is("WORTH and SACKS tell", x.asks(2, 0, 0, 4, 0), 150);
    }

    private static void night() {
        WalkTheDike x = new WalkTheDike();
        int[] was = {8, 4, 0, 4, 2};
        int[] least = {1, 2, 0, 0, 0};
        int[] most = {12, 6, 9, 8, 12};
        for (int what = 0; what < 5; what++) {
            Due.is("night below", x.night(what, least[what] - 1), WalkTheDike.BAD);
            Due.is("night above", x.night(what, most[what] + 1), WalkTheDike.BAD);
            Due.is("night most", x.night(what, most[what]), was[what]);
            Due.is("night least", x.night(what, least[what]), most[what]);
            Due.is("count", x.count(what), least[what]);
        }
        Due.is("night(5, 0)", x.night(5, 0), WalkTheDike.NONE);
        Due.is("night(-1, 99)", x.night(-1, 99), WalkTheDike.NONE);
        x.piece(0, 0);
        Due.law(x, "risk wind*10;seen 0;harm 0;");
        x.night(2, 4);
        Due.is("WIND tells", x.asks(0, 0, 0, 0, 0), 40);
        x.night(2, 7);
        Due.is("WIND tells", x.asks(0, 0, 0, 0, 0), 70);
    }

    private static void water() {
        WalkTheDike x = Due.withPieces(0);
        Due.is("water(-1, 0)", x.water(-1, 0), WalkTheDike.NONE);
        Due.is("water(12, 10)", x.water(12, 10), WalkTheDike.NONE);
        Due.is("water(0, -1)", x.water(0, -1), WalkTheDike.BAD);
        Due.is("water(11, 10)", x.water(11, 10), WalkTheDike.BAD);
        Due.is("water(11, 9)", x.water(11, 9), 0);
        Due.is("water(11, 3)", x.water(11, 3), 9);
        Due.is("WATER then tells", x.asks(0, 0, 11, 0, 0), 12);
        Due.is("WATER else", x.asks(0, 0, 10, 0, 0), 0);
        x.water(10, 2);
        Due.is("WATER then tells", x.asks(0, 0, 10, 0, 0), 8);
    }

    private static void count() {
        WalkTheDike x = Due.withPieces(1, 2, 3);
        x.man(0, 0, 10, 0);
        Due.text(x, "risk 1;seen 2;harm 3;");
        x.force(1);
        x.feed(0, 5);
        x.night(0, 9);
        int[] want = {9, 4, 0, 4, 2, 3, 1, 2, 1, 5};
        for (int what = 0; what < want.length; what++) {
            Due.is("count(" + what + ")", x.count(what), want[what]);
        }
        Due.is("count(-1)", x.count(-1), WalkTheDike.BAD);
        Due.is("count(10)", x.count(10), WalkTheDike.BAD);
    }
}
