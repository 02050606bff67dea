import java.util.function.Supplier;

/** Promises 34 to 42. */
public final class EdgesOfVillageTest extends Edges {
    public static void main(String[] args) throws ReflectiveOperationException {
        hold(EdgesOfVillageTest.class);
    }

    /** Holes begin in hour 0, break in hour 1, and harm their WORTH; THE VILLAGE comes at once and finds all. */
    private static WalkTheDike village(int hours, int... worths) {
        WalkTheDike x = night(hours, 2, "risk (water=1)*100;seen 100;harm (step=2)*worth;", worths);
        x.water(0, 1);
        x.night(4, 0);
        return x;
    }

    @Says(of = 34, value = "THE VILLAGE is CALLED in an hour (0 .. 11; -1: not): what was.")
    static void call() {
        WalkTheDike x = Due.withPieces(0);
        x.night(0, 12);
        x.night(4, 0);
        int was = -1;
        for (int h = 0; h < 12; h++) {
            is(x, "call(" + h + ")", was);
            Due.is("CALLED in " + h, x.looked(h), 1);
            Due.is("ahead of it", h == 0 ? 0 : x.looked(h - 1), 0);
            was = h;
        }
        is(x, "call(-1)", 11);
        is(x, "call(-1)", -1);
        is(x, "looked(11)", 0);
        // in an hour behind the night, too
        x.night(0, 1);
        is(x, "call(11)", -1);
        is(x, "call(11)", 11);
        is(x, "looked(0)", 0);
    }

    @Says(of = 34, value = "BAD.")
    static void callBad() {
        beyond(NEW, "call(%d)", -1, 11, BAD);
        beyond(ALL, "call(%d)", -1, 11, BAD);
    }

    @Says(of = 35, value = "ALL HARM, were it CALLED in an hour (0 .. 11; -1: not).")
    static void villageHarm() {
        WalkTheDike x = village(3, 5, 7);
        is(x, "village(-1)", 1200000000);
        is(x, "village(0)", 0);
        is(x, "village(1)", 1200000000);
        is(x, "village(11)", 1200000000);
        // whether it is CALLED now or not
        x.call(0);
        is(x, "village(-1)", 1200000000);
        is(x, "village(0)", 0);
        is(x, "run(0)", 0);
        x.night(3, 1);
        is(x, "village(0)", 700000000);
        x.night(3, 0);
        is(x, "village(0)", 1200000000);
        x.night(3, 2);
        is(x, "village(0)", 0);
        x.night(4, 1);
        is(x, "village(0)", 1200000000);
        // in the last hour of twelve: what begins there is found there
        WalkTheDike y = night(12, 6, "risk (water=1)*100;seen 100;harm 1;", 0);
        y.water(11, 1);
        y.night(4, 0);
        is(y, "village(11)", 100000000);
        is(y, "village(-1)", 0);
        y.night(4, 11);
        is(y, "village(0)", 100000000);
        is(y, "village(1)", 0);
        is(new WalkTheDike(), "village(11)", 0);
    }

    @Says(of = 35, value = "NO: hour.")
    static void villageNo() {
        beyond(NEW, "village(%d)", -1, 11, NO);
        beyond(ALL, "village(%d)", -1, 11, NO);
    }

    @Says(of = 36, value = "The hour of the night in which it should be CALLED,")
    static void callWhen() {
        // what begins by WATER 2 harms if it is found at once, what begins by WATER 1 if it breaks: in the hour of WATER 1
        for (int hours = 2; hours <= 12; hours++) {
            for (int best = 0; best < hours - 1; best++) {
                WalkTheDike x = night(hours, 2, "risk (0<water)*100;seen 100;harm (step=2)*(water=0)*30+(step=1)*(water=2)*99;", 0);
                x.night(4, 0);
                x.water(best, 1);
                for (int h = 0; h < best; h++) {
                    x.water(h, 2);
                }
                Due.is("of " + hours + " HOURS", x.callWhen(0), best);
                x.night(4, 1);
                Due.is("of " + hours + " HOURS, if it COMES an hour later", x.callWhen(0), best - 1);
            }
        }
        // no hour behind the night, though it could be CALLED there
        WalkTheDike y = night(1, 2, "risk 100;seen 100;harm 1;", 0);
        y.night(4, 0);
        is(y, "callWhen(0)", -1);
    }

    @Says(of = 36, value = "if that costs 1000000000 times so much (0 .. 9999):")
    static void callWhenCost() {
        // 100000000 PARTS by WORTH: 9 times 1000000000 for 90
        WalkTheDike x = village(2, 90);
        is(x, "callWhen(0)", 0);
        is(x, "callWhen(8)", 0);
        is(x, "callWhen(9)", -1);
        is(x, "callWhen(10)", -1);
        is(x, "callWhen(9999)", -1);
        WalkTheDike y = night(2, 2, "risk 200;seen 100;harm (step=2)*999;", 0, 0, 0, 0, 0, 0, 0, 0);
        y.night(4, 0);
        y.night(3, 8);
        // 8 times 200000000 by 999 is 1598.4 times 1000000000
        is(y, "callWhen(1598)", 0);
        is(y, "callWhen(1599)", -1);
    }

    @Says(of = 36, value = "by which ALL HARM and that are least, if less than ALL HARM, were it not CALLED;")
    static void callWhenLess() {
        // just as much is not less; 1 PART is
        WalkTheDike x = village(2, 10);
        is(x, "callWhen(0)", 0);
        is(x, "callWhen(1)", -1);
        x.set(0, 1, 11);
        is(x, "callWhen(1)", 0);
        x.set(0, 1, 0);
        is(x, "callWhen(0)", -1);
        // were it not CALLED, though it is
        WalkTheDike y = village(2, 90);
        y.call(0);
        is(y, "callWhen(8)", 0);
        is(y, "callWhen(9)", -1);
        is(y, "call(-1)", 0);
        // it harms more, by what it finds
        WalkTheDike z = night(2, 3, "risk 100;seen 100;harm 1;", 0);
        z.night(4, 0);
        is(z, "callWhen(0)", -1);
    }

    @Says(of = 36, value = "of like ones the first;")
    static void callWhenFirst() {
        // holes begin in hour 2: CALLED in 0, 1 or 2 it is there
        WalkTheDike x = night(5, 2, "risk (water=1)*100;seen 100;harm (step=2)*5;", 0);
        x.water(2, 1);
        x.night(4, 0);
        Due.is("like ones", x.village(0) + x.village(1) + x.village(2), 0);
        is(x, "callWhen(0)", 0);
        x.night(4, 2);
        Due.is("now 0 alone", x.village(0), 0);
        Due.is("not 1", x.village(1), 500000000);
        is(x, "callWhen(0)", 0);
        x.night(4, 3);
        is(x, "callWhen(0)", -1);
    }

    @Says(of = 36, value = "-1: none.")
    static void callWhenNone() {
        is(new WalkTheDike(), "callWhen(0)", -1);
        WalkTheDike x = village(2, 90);
        x.night(3, 0);
        is(x, "callWhen(0)", -1);
        x.night(3, 1);
        is(x, "callWhen(0)", 0);
        x.night(4, 12);
        is(x, "callWhen(0)", -1);
    }

    @Says(of = 36, value = "BAD.")
    static void callWhenBad() {
        beyond(NEW, "callWhen(%d)", 0, 9999, BAD);
        beyond(ALL, "callWhen(%d)", 0, 9999, BAD);
    }

    @Says(of = 37, value = "The least n, 1 or more, by which, were TRUST n less, CALLING in an hour of the night would lessen"
        + " ALL HARM by no more than 1000000000 times so much (0 .. 9999);")
    static void trusts() {
        // each PIECE that is trusted is worth 1000000000
        WalkTheDike x = village(3, 10, 10, 10, 10, 10, 10, 10, 10);
        for (int trust = 1; trust <= 8; trust++) {
            x.night(3, trust);
            for (int cost = 0; cost < trust; cost++) {
                is(x, "trusts(0, " + cost + ")", trust - cost);
            }
            is(x, "trusts(0, " + trust + ")", -1);
            is(x, "trusts(0, 9999)", -1);
            is(x, "count(3)", trust);
        }
        // by just so much, and by some PARTS more
        x.night(3, 1);
        x.set(0, 1, 11);
        is(x, "trusts(0, 1)", 1);
        is(x, "trusts(0, 2)", -1);
        // in the last hour of the night; of the next one it is BAD
        is(x, "trusts(2, 0)", -1);
        is(x, "trusts(3, 0)", BAD);
        // CALLED now or not
        x.call(0);
        is(x, "trusts(0, 1)", 1);
        is(x, "trusts(0, 0)", 1);
        is(x, "call(-1)", 0);
        WalkTheDike y = night(12, 2, "risk (water=1)*100;seen 100;harm (step=2)*30;", 0);
        y.night(4, 0);
        y.water(10, 1);
        is(y, "trusts(10, 0)", 4);
        is(y, "trusts(11, 0)", -1);
        is(y, "trusts(10, 2)", 4);
        is(y, "trusts(10, 3)", -1);
    }

    @Says(of = 37, value = "-1: it is so as it is, too;")
    static void trustsAlready() {
        WalkTheDike x = village(3, 10, 10);
        is(x, "trusts(0, 2)", -1);
        is(x, "trusts(0, 3)", -1);
        is(x, "trusts(0, 1)", 3);
        // in an hour that is too late; by looks that harm more
        is(x, "trusts(1, 0)", -1);
        is(new WalkTheDike(), "trusts(0, 0)", -1);
        WalkTheDike y = night(2, 3, "risk 100;seen 100;harm 1;", 0);
        y.night(4, 0);
        is(y, "trusts(0, 0)", -1);
    }

    @Says(of = 37, value = "none to TRUST.")
    static void trustsNone() {
        WalkTheDike x = village(3, 10, 10);
        x.night(3, 0);
        is(x, "trusts(0, 0)", -1);
        is(x, "trusts(0, 9999)", -1);
        x.night(3, 1);
        is(x, "trusts(0, 0)", 1);
    }

    @Says(of = 37, value = "BAD.")
    static void trustsBad() {
        beyond(NEW, "trusts(%d, 0)", 0, 7, BAD);
        beyond(ALL, "trusts(%d, 0)", 0, 11, BAD);
        beyond(SOME, "trusts(0, %d)", 0, 9999, BAD);
        beyond(ALL, "trusts(11, %d)", 0, 9999, BAD);
    }

    private static void told(WalkTheDike x, int want, int... row) {
        Due.row(x, 3, row);
        is(x, "places(3)", want);
    }

    @Says(of = 38, value = "A SHEET tells how many holes there were at each PIECE (0 .. 9999):")
    static void places() {
        WalkTheDike x = Due.withPieces(0, 0, 0);
        told(x, 1, 9999, 0, 0);
        told(x, 4, 0, 0, 9999);
        told(x, 0, 0, 0, 0);
        told(x, 0, 9999, 9999, 9999);
        told(x, BAD, 10000, 0, 0);
        told(x, BAD, 0, 0, 10000);
        told(x, BAD, -1, 0, 0);
        told(x, BAD, 0, 0, -1);
        told(x, BAD, 0, Integer.MAX_VALUE, 0);
        told(x, BAD, 0, Integer.MIN_VALUE, 0);
        // of each sort
        for (int sort = 0; sort <= 2; sort++) {
            x.sheet(0, sort, 3);
            x.cell(0, 1, 100);
            is(x, "places(0)", 2);
        }
    }

    @Says(of = 38, value = "PIECES (bits) at which there were more than twice as many as in the mean.")
    static void placesMean() {
        WalkTheDike x = Due.withPieces(0, 0, 0, 0);
        // the mean is 2: 4 is just twice, 5 of a mean of 2.25 more
        told(x, 0, 4, 2, 1, 1);
        told(x, 1, 5, 2, 1, 1);
        told(x, 8, 1, 1, 2, 5);
        // half of all is just twice the mean of four
        told(x, 0, 4999, 4999, 0, 0);
        told(x, 0, 9999, 3333, 3333, 3333);
        told(x, 1, 9999, 3333, 3333, 3332);
        // the mean is no number: 8 by 3, twice is 5.33; 7 by 3, twice is 4.67
        WalkTheDike y = Due.withPieces(0, 0, 0);
        told(y, 0, 5, 2, 1);
        told(y, 1, 6, 1, 1);
        told(y, 2, 1, 5, 1);
        // several of eight; none of one or two can be
        WalkTheDike z = eight();
        told(z, 1 | 8 | 128, 9, 0, 0, 9, 0, 0, 0, 9);
        told(z, 0, 9999, 9999, 9999, 9999, 0, 0, 0, 0);
        told(z, 7, 9999, 9999, 9999, 0, 0, 0, 0, 0);
        told(Due.withPieces(0), 0, 9999);
        told(Due.withPieces(0, 0), 0, 9999, 0);
        told(new WalkTheDike(), 0);
    }

    @Says(of = 38, value = "BAD: SHEET;")
    static void placesBad() {
        beyond(SOME, "places(%d)", 0, 3, BAD);
        WalkTheDike x = new WalkTheDike();
        for (int s = 0; s < 4; s++) {
            x.sheet(s, 0, 0);
        }
        row(x, "places(%d)", 0, 0, 0, 0, BAD);
    }

    @Says(of = 38, value = "-11;")
    static void placesNothing() {
        refused(NEW, -11, "places(0)", "places(3)");
        refused(SOME, -11, "places(3)");
    }

    @Says(of = 38, value = "BAD: its size, a number.")
    static void placesSize() {
        WalkTheDike x = new WalkTheDike();
        for (int pieces = 0; pieces <= 8; pieces++) {
            for (int size = 0; size <= 9; size++) {
                x.sheet(0, 0, size);
                Due.is(size + " of " + pieces, x.places(0), size == pieces ? 0 : BAD);
            }
            x.piece(0, 0);
        }
        WalkTheDike y = Due.withPieces(0, 0, 0);
        for (int i = 0; i < 3; i++) {
            for (int v : new int[] {-1, 10000, Integer.MIN_VALUE, Integer.MAX_VALUE}) {
                Due.row(y, 0, 0, 0, 0);
                y.cell(0, i, v);
                Due.is(v + " at " + i, y.places(0), BAD);
            }
        }
        refused(SOME, BAD, "places(1)", "places(2)");
        is(Worlds.some(), "places(0)", 0);
    }

    @Says(of = 39, value = "PIECES are OLD truly just if they are of these:")
    static void learn() {
        WalkTheDike x = Due.withPieces(0, 0, 0, 0);
        x.set(0, 0, 1);
        x.set(1, 0, 1);
        Due.row(x, 0, 0, 9, 0, 0);
        is(x, "learn(0)", 1);
        row(x, "asks(0, %d, 0, 0, 0)", 0, 20, 0, 0);
        Due.row(x, 0, 0, 0, 0, 9);
        is(x, "learn(0)", 2);
        row(x, "asks(0, %d, 0, 0, 0)", 0, 0, 0, 20);
        // just twice the mean: none of these
        Due.row(x, 0, 0, 0, 9, 9);
        is(x, "learn(0)", 1);
        row(x, "set(%d, 0, 0)", 0, 0, 0, 0);
    }

    @Says(of = 39, value = "how many became otherwise.")
    static void learnHowMany() {
        WalkTheDike x = eight();
        Due.row(x, 0, 9, 9, 9, 0, 0, 0, 0, 0);
        is(x, "learn(0)", 3);
        is(x, "learn(0)", 0);
        Due.row(x, 0, 0, 0, 0, 0, 0, 9, 9, 9);
        is(x, "learn(0)", 6);
        Due.row(x, 0, 0, 0, 0, 0, 0, 0, 0, 0);
        is(x, "learn(0)", 3);
        for (int p = 0; p < 8; p++) {
            x.set(p, 0, 1);
        }
        is(x, "learn(0)", 8);
        is(x, "learn(0)", 0);
        WalkTheDike y = new WalkTheDike();
        y.sheet(0, 0, 0);
        is(y, "learn(0)", 0);
    }

    @Says(of = 39, value = "What places() refuses.")
    static void learnRefuses() {
        beyond(SOME, "learn(%d)", 0, 3, BAD);
        refused(NEW, -11, "learn(0)", "learn(3)");
        refused(SOME, -11, "learn(3)");
        refused(SOME, BAD, "learn(1)", "learn(2)", "learn(4)", "learn(-1)");
        refused(() -> {
            WalkTheDike x = Worlds.some();
            x.sheet(0, 2, 3);
            x.cell(0, 2, 10000);
            return x;
        }, BAD, "learn(0)");
        refused(() -> {
            WalkTheDike x = Worlds.some();
            x.sheet(0, 2, 3);
            x.cell(0, 1, 9);
            x.cell(0, 0, -1);
            return x;
        }, BAD, "learn(0)");
    }

    @Says(of = 40, value = "DRAWN: what 0 HARM together, 1 how many PIECES broke, 2 how many holes were found.")
    static void drawn() {
        // RISK 200 in hour 0: LOTS 1, 2, 3 of the PIECES without a LAMP; what breaks harms its WORTH
        for (int seed = 0; seed < 40; seed++) {
            WalkTheDike x = night(2, 2, "risk (water=1)*200;seen 100;harm worth*step;", 1, 10, 40);
            x.water(0, 1);
            int broke = 0;
            int harm = 0;
            int[] worths = {1, 10, 40};
            for (int p = 0; p < 3; p++) {
                if (lot(seed, p + 1) % 1000 < 200) {
                    broke++;
                    harm += 2 * worths[p];
                }
            }
            row(x, "drawn(" + seed + ", %d)", harm, broke, 0, NO);
            // THE VILLAGE finds at PIECE 0 what begins there, and draws a LOT for it
            x.night(3, 1);
            x.night(4, 0);
            x.call(0);
            int found = lot(seed, 1) % 1000 < 200 ? 1 : 0;
            broke = 0;
            harm = found;
            for (int p = 1; p < 3; p++) {
                if (lot(seed, p + 1 + found) % 1000 < 200) {
                    broke++;
                    harm += 2 * worths[p];
                }
            }
            row(x, "drawn(" + seed + ", %d)", harm, broke, found, NO);
        }
        row(new WalkTheDike(), "drawn(99999, %d)", 0, 0, 0, NO);
        row(night(12, 2, "risk 0;seen 100;harm 999;", 1, 2), "drawn(0, %d)", 0, 0, 0, NO);
        // found again and again: more than there are PIECES
        WalkTheDike y = night(12, 2, "risk 200;seen 100;harm 1;", 0);
        y.lamp(0, 1);
        int most = 0;
        for (int seed = 0; seed < 100; seed++) {
            most = Math.max(most, (int) y.drawn(seed, 2));
            Due.is("HARM is of those that are found", y.drawn(seed, 0), y.drawn(seed, 2));
        }
        Due.is("several times", most > 1 ? 1 : 0, 1);
    }

    @Says(of = 40, value = "NO: none such.")
    static void drawnNo() {
        beyond(NEW, "drawn(%d, 0)", 0, 99999, NO);
        beyond(ALL, "drawn(%d, 1)", 0, 99999, NO);
        beyond(SOME, "drawn(0, %d)", 0, 2, NO);
        beyond(ALL, "drawn(99999, %d)", 0, 2, NO);
    }

    @Says(of = 41, value = "AN IMAGE is kept: how many PIECES.")
    static void image() {
        WalkTheDike x = new WalkTheDike();
        for (int p = 0; p <= 8; p++) {
            is(x, "image()", p);
            is(x, "back()", p);
            x.piece(0, p);
        }
        // one alone: the last one
        WalkTheDike y = Due.withPieces(5);
        y.image();
        y.set(0, 1, 6);
        y.image();
        y.set(0, 1, 7);
        is(y, "back()", 1);
        is(y, "taken(0, 6)", 6);
        // to keep the same once more changes nothing
        unchanged(KEPT, "image()");
        unchanged(KEPT, "back()");
    }

    private static final Supplier<WalkTheDike> KEPT = () -> {
        WalkTheDike x = Worlds.some();
        x.image();
        return x;
    };

    @Says(of = 42, value = "All that it keeps is as in THE IMAGE: how many PIECES there are.")
    static void back() {
        WalkTheDike x = Worlds.some();
        x.image();
        is(x, "back()", 3);
        x.piece(0, 0);
        is(x, "back()", 4);
        for (int p = 4; p < 8; p++) {
            x.piece(0, 0);
        }
        is(x, "back()", 8);
        is(x, "count(5)", 8);
        // as often as one likes
        for (int i = 0; i < 3; i++) {
            is(x, "set(0, 1, 77)", 10);
            is(x, "back()", 8);
        }
        // back is no image: what is changed behind it is gone by the next one, too
        is(x, "night(2, 9)", 5);
        is(x, "back()", 8);
        is(x, "count(2)", 5);
        // what was reckoned of the other LAW, WATER, WIND, OLD, WORTH is not kept
        WalkTheDike y = Worlds.some();
        y.image();
        long harm = y.run(0);
        y.force(0);
        y.set(0, 0, 1);
        y.set(1, 1, 99);
        y.water(2, 9);
        y.night(2, 0);
        Due.is("other HARM", y.run(0) != harm ? 1 : 0, 1);
        y.back();
        Due.is("ALL HARM again", y.run(0), harm);
    }

    @Says(of = 42, value = "STATE: there is none.")
    static void backState() {
        refused(NEW, STATE, "back()");
        refused(SOME, STATE, "back()");
        WalkTheDike x = new WalkTheDike();
        is(x, "back()", STATE);
        is(x, "image()", 0);
        is(x, "back()", 0);
    }
}
