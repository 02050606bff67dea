/** Promises 34 to 42: the village, old places, nights drawn, images. */
public final class VillageTest {
    private static final long NO = WalkTheDike.NO;

    /** The village comes at once. */
    private static WalkTheDike short3(String law, int... worths) {
        WalkTheDike x = Due.short3(law, worths);
        x.night(4, 0);
        return x;
    }

    public static void main(String[] args) {
        call();
        village();
        callWhen();
        trusts();
        places();
        learn();
        drawnByHand();
        brokenForGood();
        drawnRefused();
        image();
        Due.end();
    }

    private static void call() {
        WalkTheDike x = Due.withPieces(0);
        Due.is("call(12)", x.call(12), WalkTheDike.BAD);
        Due.is("call(-2)", x.call(-2), WalkTheDike.BAD);
        Due.is("call(11)", x.call(11), -1);
        Due.is("call(0)", x.call(0), 11);
        Due.is("it comes", x.looked(2), 1);
        Due.is("it does not come yet", x.looked(1), 0);
        Due.is("call(-1)", x.call(-1), 0);
        Due.is("it does not come", x.looked(2), 0);
    }

    private static void village() {
        WalkTheDike x = short3("risk 100;seen 50;harm step=3;", 0, 0);
        x.night(3, 1);
        Due.is("village(-1)", x.village(-1), 200000000);
        Due.is("village(2)", x.village(2), 200000000);
        Due.is("village(1)", x.village(1), 150000000);
        Due.is("village(0)", x.village(0), 125000000);
        Due.is("village(11)", x.village(11), 200000000);
        Due.is("village(12)", x.village(12), NO);
        Due.is("village(-2)", x.village(-2), NO);
        Due.is("what is asked changes nothing", x.run(0), 200000000);
        Due.is("what is asked changes nothing", x.call(0), -1);
        Due.is("village(-1)", x.village(-1), 200000000);
        x.night(4, 1);
        Due.is("it comes an hour behind", x.village(0), 150000000);
    }

    private static void callWhen() {
        WalkTheDike x = short3("risk 100;seen 50;harm (step=3)*100;", 0);
        // not called 100 times 100000000; in hour 0 a quarter, in hour 1 half of that
        Due.is("callWhen(-1)", x.callWhen(-1), WalkTheDike.BAD);
        Due.is("callWhen(10000)", x.callWhen(10000), WalkTheDike.BAD);
        Due.is("callWhen(0)", x.callWhen(0), 0);
        Due.is("callWhen(7)", x.callWhen(7), 0);
        Due.is("callWhen(8)", x.callWhen(8), -1);
        Due.is("callWhen(9999)", x.callWhen(9999), -1);
        x.call(0);
        Due.is("as it is not called", x.callWhen(7), 0);
        Due.is("what is asked changes nothing", x.call(-1), 0);
        Due.law(x, "risk 100;seen (step=2)*100;harm (step=3)*100;");
        Due.is("of like ones the first", x.callWhen(0), 0);
        Due.law(x, "risk 100;seen 100;harm step*(step-1)*10;");
        x.night(3, 8);
        // a look at holes of step 1 does not harm
        Due.is("the first", x.callWhen(0), 0);
        Due.law(x, "risk 100;seen (old+(1-old))*50;harm (step<3)*99;");
        Due.is("looks harm more", x.callWhen(0), -1);
        // risk is by SINCE: a look in hour 0 makes it more
        Due.law(x, "risk (step=1)*100;seen 0;harm step=3;");
        Due.is("called, it is less by none", x.callWhen(0), -1);
        x = short3("risk (step=2)*100;seen 0;harm step=3;", 0);
        x.night(0, 4);
        Due.is("called in hour 0", x.callWhen(0), 0);
        x.night(4, 1);
        Due.is("too late, in hour 1", x.callWhen(0), -1);
        x.night(3, 0);
        x.night(4, 0);
        Due.is("no trust", x.callWhen(0), -1);
        Due.is("no pieces", new WalkTheDike().callWhen(0), -1);
    }

    private static void trusts() {
        WalkTheDike x = short3("risk 100;seen 100;harm (step=3)*100;", 0, 0, 0);
        // called in hour 0 each of 0 .. TRUST less 1 is less by 10 times 1000000000
        Due.is("trusts(3, 0)", x.trusts(3, 0), WalkTheDike.BAD);
        Due.is("trusts(-1, 0)", x.trusts(-1, 0), WalkTheDike.BAD);
        Due.is("trusts(0, -1)", x.trusts(0, -1), WalkTheDike.BAD);
        Due.is("trusts(0, 10000)", x.trusts(0, 10000), WalkTheDike.BAD);
        Due.is("four trusted, three there", x.trusts(0, 0), 4);
        Due.is("trusts(0, 9)", x.trusts(0, 9), 4);
        Due.is("trusts(0, 10)", x.trusts(0, 10), 3);
        Due.is("trusts(0, 19)", x.trusts(0, 19), 3);
        Due.is("trusts(0, 20)", x.trusts(0, 20), 2);
        Due.is("trusts(0, 29)", x.trusts(0, 29), 2);
        Due.is("it is so as it is", x.trusts(0, 30), -1);
        x.night(3, 2);
        Due.is("trusts(0, 10)", x.trusts(0, 10), 1);
        Due.is("it is so as it is", x.trusts(0, 20), -1);
        x.night(3, 0);
        Due.is("none to trust", x.trusts(0, 0), -1);
        x.night(3, 2);
        x.call(0);
        Due.is("called already, it is the same", x.trusts(0, 10), 1);
        Due.is("what is asked changes nothing", x.count(3), 2);
        Due.is("what is asked changes nothing", x.call(-1), 0);
        Due.is("too late", x.trusts(2, 0), -1);
        x.call(1);
        Due.is("called in hour 1", x.trusts(0, 10), 1);
        Due.is("called in hour 1", x.callWhen(0), 0);
        Due.is("called in hour 1", x.village(0), 10000000000L);
        Due.is("what is asked changes nothing", x.call(-1), 1);
        Due.is("no pieces", new WalkTheDike().trusts(7, 0), -1);
    }

    private static void places() {
        WalkTheDike x = Due.withPieces(0, 0, 0, 0);
        Due.is("places(4)", x.places(4), WalkTheDike.BAD);
        Due.is("places(-1)", x.places(-1), WalkTheDike.BAD);
        Due.is("places(0)", x.places(0), -11);
        Due.row(x, 0, 1, 2, 3);
        Due.is("too short", x.places(0), WalkTheDike.BAD);
        Due.row(x, 0, 1, 2, 3, 4, 5);
        Due.is("too long", x.places(0), WalkTheDike.BAD);
        Due.row(x, 0, 1, 2, 3, -1);
        Due.is("below 0", x.places(0), WalkTheDike.BAD);
        Due.row(x, 0, 10000, 2, 3, 1);
        Due.is("above 9999", x.places(0), WalkTheDike.BAD);
        Due.row(x, 0, 9999, 0, 0, 9);
        Due.is("the first", x.places(0), 1);
        Due.row(x, 0, 0, 0, 5, 5);
        Due.is("twice the mean is not more", x.places(0), 0);
        Due.row(x, 0, 0, 0, 5, 6);
        Due.is("more than twice", x.places(0), 8);
        // the mean is 1.5: more than 3
        Due.row(x, 0, 3, 1, 1, 1);
        Due.is("3 of 6", x.places(0), 0);
        Due.row(x, 0, 1, 4, 1, 1);
        Due.is("4 of 7", x.places(0), 2);
        Due.row(x, 0, 0, 0, 0, 0);
        Due.is("no holes", x.places(0), 0);
        for (int p = 0; p < 4; p++) {
            x.piece(0, 0);
        }
        Due.row(x, 0, 0, 9, 0, 9, 0, 0, 8, 1);
        Due.is("three", x.places(0), 2 | 8 | 64);
        x.sheet(1, 0, 8);
        x.cell(1, 3, 255);
        Due.is("a byte of 255 is -1", x.places(1), WalkTheDike.BAD);
        WalkTheDike y = new WalkTheDike();
        y.sheet(0, 1, 0);
        Due.is("no pieces", y.places(0), 0);
    }

    private static void learn() {
        WalkTheDike x = Due.withPieces(0, 0, 0, 0);
        Due.is("learn(4)", x.learn(4), WalkTheDike.BAD);
        Due.is("learn(0)", x.learn(0), -11);
        Due.row(x, 0, 1, 2, 3);
        Due.is("too short", x.learn(0), WalkTheDike.BAD);
        Due.row(x, 0, 1, 2, 3, 10000);
        Due.is("a number", x.learn(0), WalkTheDike.BAD);
        x.set(0, 0, 1);
        x.set(1, 0, 1);
        Due.row(x, 0, 0, 5, 0, 0);
        Due.is("RISK of an old one", x.asks(0, 0, 0, 0, 0), 20);
        Due.is("one is no more old", x.learn(0), 1);
        Due.is("asks", x.asks(0, 0, 0, 0, 0), 0);
        Due.is("asks", x.asks(0, 1, 0, 0, 0), 20);
        Due.is("none otherwise", x.learn(0), 0);
        Due.row(x, 0, 0, 0, 0, 7);
        Due.is("two otherwise", x.learn(0), 2);
        Due.is("OLD", x.set(3, 0, 0), 1);
        Due.is("not OLD", x.set(1, 0, 0), 0);
    }

    private static long lot(int seed, int k) {
        long lot = seed + 1;
        for (int i = 0; i < k; i++) {
            lot = lot * 48271 % 2147483647;
        }
        return lot;
    }

    private static void drawnByHand() {
        // two PIECES, RISK 200, one hour: the lots 1 and 2 tell who has a hole, seen by none
        for (int seed = 0; seed < 300; seed++) {
            WalkTheDike x = Due.withPieces(0, 0);
            x.night(0, 2);
            x.night(1, 2);
            Due.law(x, "risk 200;seen 50;harm step*10+worth;");
            boolean first = lot(seed, 1) % 1000 < 200;
            boolean second = lot(seed, 2) % 1000 < 200;
            int broke = (first ? 1 : 0) + (second ? 1 : 0);
            Due.is("seed " + seed + " broke", x.drawn(seed, 1), broke);
            Due.is("seed " + seed + " harm", x.drawn(seed, 0), 20 * broke);
            Due.is("seed " + seed + " found", x.drawn(seed, 2), 0);
            // under a lamp at PIECE 0 its hole draws the lot ahead of PIECE 1
            x.lamp(0, 1);
            x.set(0, 1, 5);
            int k = 1;
            boolean hole0 = lot(seed, k++) % 1000 < 200;
            int found = hole0 && lot(seed, k++) % 100 < 50 ? 1 : 0;
            boolean open = hole0 && found == 0;
            boolean hole1 = lot(seed, k++) % 1000 < 200;
            long harm = found * 15;
            int broken = 0;
            if (open) {
                broken++;
                harm += 25;
            } else if (lot(seed, k++) % 1000 < 200) {
                if (lot(seed, k++) % 100 < 50) {
                    found++;
                    harm += 15;
                }
            }
            if (hole1) {
                broken++;
                harm += 20;
            }
            Due.is("lamp, seed " + seed + " harm", x.drawn(seed, 0), harm);
            Due.is("lamp, seed " + seed + " broke", x.drawn(seed, 1), broken);
            Due.is("lamp, seed " + seed + " found", x.drawn(seed, 2), found);
        }
    }

    private static void brokenForGood() {
        WalkTheDike x = Due.withPieces(0);
        x.night(0, 12);
        x.night(1, 2);
        Due.law(x, "risk 200;seen 0;harm step;");
        int broken = 0;
        for (int seed = 0; seed < 200; seed++) {
            int begins = 12;
            for (int h = 11; h >= 0; h--) {
                begins = lot(seed, h + 1) % 1000 < 200 ? h : begins;
            }
            int broke = begins < 11 ? 1 : 0;
            broken += broke;
            Due.is("broken once, seed " + seed, x.drawn(seed, 1), broke);
            Due.is("harm once, seed " + seed, x.drawn(seed, 0), 2 * broke);
        }
        Due.is("many broke", broken > 150 && broken < 200 ? 1 : 0, 1);
    }

    private static void drawnRefused() {
        WalkTheDike x = Due.withPieces(0);
        Due.is("drawn(-1, 0)", x.drawn(-1, 0), NO);
        Due.is("drawn(100000, 0)", x.drawn(100000, 0), NO);
        Due.is("drawn(0, 3)", x.drawn(0, 3), NO);
        Due.is("drawn(0, -1)", x.drawn(0, -1), NO);
        Due.law(x, "risk 200;seen 0;harm 1;");
        // the first lot of seed 99999 modulo 1000 is 100000 times 48271 modulo 2147483647: 532716506
        Due.is("the lot", lot(99999, 1), 100000L * 48271 % 2147483647);
        x.night(0, 2);
        x.night(1, 2);
        for (int seed : new int[] {0, 99998, 99999}) {
            Due.is("seed " + seed, x.drawn(seed, 1), lot(seed, 1) % 1000 < 200 ? 1 : 0);
        }
        Due.is("no pieces", new WalkTheDike().drawn(0, 2), 0);
    }

    private static void image() {
        WalkTheDike x = Due.withPieces(7, 8);
        Due.is("back() ahead of an image", x.back(), WalkTheDike.STATE);
        x.man(1, 1, 10, 0);
        x.water(3, 4);
        x.lamp(1, 1);
        x.set(0, 0, 1);
        x.set(0, 2, 2);
        x.call(5);
        Due.text(x, "risk 1;seen 2;harm 3;");
        x.force(1);
        int[] nights = {9, 5, 6, 3, 1};
        for (int what = 0; what < 5; what++) {
            x.night(what, nights[what]);
        }
        Due.is("image()", x.image(), 2);
        for (int round = 0; round < 2; round++) {
            changeAll(x);
            Due.is("the other law tells", x.asks(2, 0, 0, 1, 0), 1);
            Due.is("the other law tells", x.asks(0, 0, 3, 1, 0), 37);
            Due.is("back()", x.back(), 3 + round);
            asInTheImage(x, nights);
        }
        Due.is("a piece that came since", x.set(2, 1, 1), 33);
        Due.is("a lamp there", x.lamp(2, 0), 1);
        Due.is("sacks there", x.set(2, 2, 0), 1);
        Due.is("a man who came since", x.pace(1, 1), 3);
        Due.is("the second image", x.image(), 4);
        x.set(2, 1, 77);
        x.pace(1, 2);
        x.pace(0, 2);
        Due.is("back to it", x.back(), 4);
        Due.is("it keeps the third piece", x.set(2, 1, 1), 1);
        Due.is("and the second man", x.pace(1, 1), 1);
        Due.is("and the first", x.pace(0, 1), 1);
        WalkTheDike y = new WalkTheDike();
        Due.is("an image of no pieces", y.image(), 0);
        y.piece(1, 9);
        Due.is("back", y.back(), 1);
        Due.is("the piece stays as it is", y.set(0, 1, 0), 9);
    }

    private static void changeAll(WalkTheDike x) {
        int p = x.piece(0, 33);
        x.lamp(p, 1);
        x.set(p, 2, 1);
        int m = x.man(0, 0, 20, 0);
        x.pace(m, 3);
        x.pace(0, 3);
        for (int h = 0; h < 12; h++) {
            x.water(h, 9);
        }
        x.lamp(1, 0);
        x.lamp(0, 1);
        x.set(0, 0, 0);
        x.set(0, 1, 1);
        x.set(1, 1, 2);
        x.set(0, 2, 0);
        x.set(1, 2, 3);
        x.call(-1);
        x.force(0);
        int[] others = {4, 2, 0, 8, 9};
        for (int what = 0; what < 5; what++) {
            x.night(what, others[what]);
        }
    }

    private static void asInTheImage(WalkTheDike x, int[] nights) {
        for (int what = 0; what < 5; what++) {
            Due.is("count(" + what + ")", x.count(what), nights[what]);
        }
        for (int h = 0; h < 12; h++) {
            Due.is("water of " + h, x.water(h, h == 3 ? 4 : 0), h == 3 ? 4 : 0);
        }
        Due.is("lamp(0)", x.lamp(0, 0), 0);
        Due.is("lamp(1)", x.lamp(1, 1), 1);
        Due.is("OLD", x.set(0, 0, 1), 1);
        Due.is("WORTH", x.set(0, 1, 7), 7);
        Due.is("SACKS", x.set(0, 2, 2), 2);
        Due.is("OLD", x.set(1, 0, 0), 0);
        Due.is("WORTH", x.set(1, 1, 8), 8);
        Due.is("SACKS", x.set(1, 2, 0), 0);
        Due.is("CALLED", x.call(5), 5);
        Due.is("THE LAW", x.count(8), 1);
        Due.is("the law tells", x.asks(2, 0, 0, 1, 0), 3);
        Due.is("the law tells", x.asks(0, 0, 3, 1, 0), 1);
        Due.is("PACE", x.manTold(0, 3), 1);
    }
}
