/** Terms: a night in PARTS, one more look, a night drawn. */
public final class EdgesOfNightsTest extends Edges {
    private static final long WHOLE = 1000000000;
    /** By RISK 1 the PARTS with holes of step 1, 2, .. in hour 3, if no one has looked. */
    private static final long[] ONES = {997002, 998001, 999000, 1000000};
    /** SEEN of two looks by which it can be told which came first. */
    private static final int FEW = 1, MANY = 29;

    public static void main(String[] args) throws ReflectiveOperationException {
        hold(EdgesOfNightsTest.class);
    }

    private static void states(WalkTheDike x, int p, int h, long... want) {
        row(x, "state(" + p + ", " + h + ", %d)", want);
    }

    @Says(of = 0, value = "A NIGHT of a PIECE is reckoned in PARTS of one whole, 1000000000 PARTS:"
        + " all have no hole ahead of hour 0.")
    static void wholeNight() {
        WalkTheDike x = night(1, 2, "risk 0;seen 0;harm 1;", 0);
        states(x, 0, 0, WHOLE, 0, 0);
        // no PARTS are lost
        WalkTheDike y = Worlds.full();
        for (int p = 0; p < 8; p++) {
            for (int h : new int[] {0, 5, 11}) {
                long all = 0;
                for (int step = 0; step <= 6; step++) {
                    all += y.state(p, h, step);
                }
                Due.is("all PARTS of " + p + " in hour " + h, all, WHOLE);
            }
        }
    }

    @Says(of = 0, value = "In each hour, in this order: those with a hole of a step have one of the next step;"
        + " those that come to BREAKS are broken for good: HARM of BREAKS.")
    static void breaking() {
        // all holes begin in hour 0: step 1 behind it
        WalkTheDike x = night(4, 3, "risk (water=1)*100;seen 0;harm step*10+water;", 0);
        x.water(0, 1);
        states(x, 0, 0, 900000000, 100000000, 0, 0);
        states(x, 0, 1, 900000000, 0, 100000000, 0);
        states(x, 0, 2, 900000000, 0, 0, 100000000);
        states(x, 0, 3, 900000000, 0, 0, 100000000);
        // HARM of step 3, once
        is(x, "run(0)", 30 * 100000000L);
        x.night(0, 2);
        is(x, "run(0)", 0);
        // by the WATER of the hour in which it breaks
        x.night(0, 4);
        x.water(2, 2);
        is(x, "harm(0, 0)", 32 * 100000000L);
        // broken for good: a look finds none of them, and no hole begins there
        WalkTheDike y = night(12, 2, "risk water*100;seen 100;harm step;", 0);
        y.water(0, 1);
        y.call(0);
        y.night(4, 1);
        states(y, 0, 1, 900000000, 0, 100000000);
        states(y, 0, 11, 900000000, 0, 100000000);
        is(y, "run(2)", 0);
        is(y, "run(0)", 200000000);
        WalkTheDike z = night(3, 2, "risk 200;seen 0;harm 1;", 0);
        states(z, 0, 2, 512000000, 128000000, 360000000);
        is(z, "run(0)", 360000000);
    }

    @Says(of = 0, value = "Of those that have had none: PARTS times RISK by 1000 (cut) have one of step 1.")
    static void beginning() {
        WalkTheDike x = night(12, 6, "risk 1;seen 0;harm 1;", 0);
        states(x, 0, 0, 999000000, 1000000, 0);
        states(x, 0, 1, 998001000, 999000, 1000000);
        states(x, 0, 2, 997002999, 998001, 999000);
        // 997002999 by 1000 is 997002.999
        states(x, 0, 3, 996005997, 997002, 998001);
        // 996005997 by 1000 is 996005.997
        states(x, 0, 4, 995009992, 996005, 997002);
        // those that were found may have one again, in the next hour; not in the same
        WalkTheDike y = night(2, 6, "risk 200;seen 100;harm 1;", 0);
        y.lamp(0, 1);
        states(y, 0, 0, WHOLE, 0, 0);
        states(y, 0, 1, WHOLE, 0, 0);
        is(y, "run(2)", 400000000);
        // those with a hole, and the broken ones, have no other
        WalkTheDike z = night(3, 2, "risk 200;seen 0;harm 1;", 0);
        states(z, 0, 1, 640000000, 160000000, 200000000);
    }

    /** What is left of PARTS behind looks by so many of 100. */
    private static long left(long parts, int... seen) {
        long left = parts;
        for (int s : seen) {
            left -= left * s / 100;
        }
        return left;
    }

    /** Four hours of RISK 1; none are seen but in hour 3: by PACE 1 FEW, else MANY; holes break behind the night. */
    private static WalkTheDike fewAndMany() {
        WalkTheDike x = night(4, 6, "risk 1;seen (water=3)*(" + MANY + "-(pace=1)*" + (MANY - FEW) + ");harm 1;", 0);
        x.water(3, 3);
        return x;
    }

    private static void behindHour3(String name, WalkTheDike x, int... seen) {
        for (int step = 1; step <= 4; step++) {
            Due.is(name + ": state(0, 3, " + step + ")", x.state(0, 3, step), left(ONES[step - 1], seen));
        }
    }

    @Says(of = 0, value = "Then each look (MEN by numbers, THE VILLAGE, a LAMP):")
    static void looksInTheirOrder() {
        Due.is("it can be told which came first", left(ONES[0], FEW, MANY) != left(ONES[0], MANY, FEW) ? 1 : 0, 1);
        WalkTheDike x = fewAndMany();
        x.man(0, 0, 10, 0);
        x.man(0, 0, 20, 0);
        behindHour3("PACES 1, 2", x, FEW, MANY);
        x.pace(0, 3);
        x.pace(1, 1);
        behindHour3("PACES 3, 1", x, MANY, FEW);
        WalkTheDike y = fewAndMany();
        y.man(0, 0, 10, 0);
        y.night(4, 3);
        y.call(0);
        behindHour3("a MAN, THE VILLAGE", y, FEW, MANY);
        y.lamp(0, 1);
        behindHour3("a MAN, THE VILLAGE, a LAMP", y, FEW, MANY, MANY);
        y.call(-1);
        behindHour3("a MAN, a LAMP", y, FEW, MANY);
        // each of them looks: two MEN, THE VILLAGE and a LAMP at one PIECE
        WalkTheDike w = night(1, 2, "risk 200;seen 50;harm 1;", 0);
        w.lamp(0, 1);
        is(w, "state(0, 0, 1)", 100000000);
        w.night(4, 0);
        w.call(0);
        is(w, "state(0, 0, 1)", 50000000);
        w.man(0, 0, 10, 0);
        is(w, "state(0, 0, 1)", 25000000);
        w.man(0, 0, 10, 0);
        is(w, "state(0, 0, 1)", 12500000);
        w.man(0, 0, 10, 0);
        w.man(0, 0, 10, 0);
        w.man(0, 0, 10, 0);
        is(w, "state(0, 0, 1)", 1562500);
        is(w, "run(2)", 200000000 - 1562500);
    }

    @Says(of = 0, value = "of those with a hole of step 1, 2, .. below BREAKS:")
    static void stepsThatAreSeen() {
        for (int breaks = 2; breaks <= 6; breaks++) {
            for (int step = 1; step <= breaks; step++) {
                // all holes begin in hour 0: those of one step are seen
                WalkTheDike x = night(8, breaks, "risk water*100;seen (step=" + step + ")*100;harm 1;", 0);
                x.water(0, 1);
                x.lamp(0, 1);
                Due.is("BREAKS " + breaks + ", step " + step + ": found", x.run(2), step < breaks ? 100000000 : 0);
                Due.is("BREAKS " + breaks + ", step " + step + ": broken", x.run(1), step < breaks ? 0 : 100000000);
            }
        }
    }

    @Says(of = 0, value = "PARTS times SEEN by 100 (cut) are found: HARM of that step; they have none.")
    static void finding() {
        WalkTheDike x = night(4, 6, "risk 1;seen (water=3)*99;harm step*step;", 0);
        x.water(3, 3);
        x.man(0, 0, 10, 0);
        // 99 of 100 of them: 987031.98, 988020.99, 989010, 990000
        states(x, 0, 3, 996005997 + 987031 + 988020 + 989010 + 990000, 9971, 9981, 9990, 10000, 0, 0);
        is(x, "harm(0, 2)", 987031 + 988020 + 989010 + 990000);
        is(x, "harm(0, 0)", 987031 + 4 * 988020 + 9 * 989010 + 16 * 990000);
        Due.law(x, "risk 1;seen 0;harm step;");
        is(x, "harm(0, 2)", 0);
        Due.law(x, "risk 1;seen (water=3)*100;harm step;");
        states(x, 0, 3, WHOLE, 0, 0, 0, 0, 0, 0);
    }

    @Says(of = 0, value = "What it HARMS: all such PARTS times their HARM, together. ALL HARM: of all PIECES.")
    static void allHarm() {
        // found by the LAMP at step 1, or broken at step 2: HARM by step and WORTH
        WalkTheDike x = night(2, 2, "risk water*100;seen 50;harm step+worth;", 5, 0, 99);
        x.water(0, 1);
        x.lamp(0, 1);
        is(x, "harm(0, 0)", 50000000L * 6 + 50000000L * 7);
        is(x, "harm(1, 0)", 100000000L * 2);
        is(x, "harm(2, 0)", 100000000L * 101);
        is(x, "run(0)", 50000000L * 13 + 100000000L * 103);
        is(new WalkTheDike(), "run(0)", 0);
        // PARTS times HARM is no int, nor is their sum
        WalkTheDike y = night(12, 2, "risk 200;seen 100;harm 999;", 0, 0, 0, 0, 0, 0, 0, 0);
        row(y, "lamp(%d, 1)", times(8, 0));
        is(y, "run(0)", 8 * 12 * 200000000L * 999);
    }

    @Says(of = 0, value = "ONE MORE LOOK at a PIECE in an hour: it is LOOKED AT then, behind all others, by PACE 1.")
    static void oneMoreLook() {
        for (int pace = 0; pace <= 3; pace++) {
            WalkTheDike x = night(2, 2, "risk water*100;seen (pace=" + pace + ")*100;harm step=2;", 0);
            x.water(0, 1);
            Due.is("seen by pace " + pace, x.more(0, 0), pace == 1 ? 100000000 : 0);
        }
        // it is LOOKED AT: SINCE is 1 in the next hour
        WalkTheDike y = night(3, 2, "risk (step=2)*100;seen 0;harm step=2;", 0);
        is(y, "run(0)", 100000000);
        is(y, "more(0, 0)", 100000000);
        is(y, "more(0, 1)", 0);
        is(y, "more(0, 2)", 0);
        // behind THE VILLAGE, and behind a LAMP
        WalkTheDike z = fewAndMany();
        z.night(4, 3);
        z.call(0);
        long behind = 0;
        long ahead = 0;
        for (long n : ONES) {
            behind += left(n, MANY) - left(n, MANY, FEW);
            ahead += left(n, MANY) - left(n, FEW, MANY);
        }
        Due.is("it can be told which came first", behind != ahead ? 1 : 0, 1);
        is(z, "more(0, 3)", -behind);
        z.call(-1);
        z.lamp(0, 1);
        is(z, "more(0, 3)", -behind);
    }

    @Says(of = 0, value = "DRAWN by a SEED (0 .. 99999):")
    static void seeds() {
        WalkTheDike x = night(2, 2, "risk 200;seen 0;harm 1;", 0);
        for (int seed : new int[] {0, 1, 99998, 99999}) {
            Due.is("SEED " + seed, x.drawn(seed, 1), lot(seed, 1) % 1000 < 200 ? 1 : 0);
        }
        beyond(SOME, "drawn(%d, 0)", 0, 99999, NO);
        beyond(SOME, "drawn(%d, 2)", 0, 99999, NO);
    }

    /** The first SEED whose lots are so: for each of a row of numbers the lot modulo 1000 is less than 200, or is not. */
    private static int seedOf(int... less) {
        for (int seed = 0; seed < 100000; seed++) {
            boolean all = true;
            for (int k = 0; k < less.length; k++) {
                all &= less[k] < 0 || (lot(seed, k + 1) % 1000 < 200) == (less[k] == 1);
            }
            if (all) {
                return seed;
            }
        }
        throw new IllegalStateException("no such SEED");
    }

    @Says(of = 0, value = "LOTS: the first is (SEED and 1) times 48271 modulo 2147483647,"
        + " each further one the last times 48271 modulo 2147483647.")
    static void lots() {
        // 48271; 2330089441 less 2147483647; and so on: more than an int holds
        Due.is("the first of SEED 0", lot(0, 1), 48271);
        Due.is("the second of SEED 0", lot(0, 2), 182605794);
        Due.is("the third of SEED 0", lot(0, 3), 1291394886);
        Due.is("the first of SEED 44487", lot(44487, 1), 2147480248);
        Due.is("the first of SEED 44488", lot(44488, 1), 44872);
        Due.is("the first of SEED 99999", lot(99999, 1), 532132706);
        // in each hour one LOT of a PIECE without holes: the first that is less than 200 tells the hour
        WalkTheDike x = night(12, 6, "risk 200;seen 0;harm water*100+step;", 0);
        for (int h = 0; h < 12; h++) {
            x.water(h, h % 10);
        }
        for (int seed : new int[] {0, 1, 2, 3, 44487, 44488, 44489, 99990, 99998, 99999}) {
            int begins = 0;
            while (lot(seed, begins + 1) % 1000 >= 200) {
                begins++;
            }
            int breaks = begins + 5;
            Due.is("SEED " + seed + ": HARM", x.drawn(seed, 0), breaks < 12 ? breaks % 10 * 100 + 6 : 0);
        }
    }

    @Says(of = 0, value = "Hour by hour, PIECE by PIECE: a broken one draws none;")
    static void brokenDrawsNone() {
        // hour 0: 1 of PIECE 0, 2 of PIECE 1; hour 1: PIECE 0 breaks, 3 of PIECE 1; hour 2: 4 of PIECE 1
        WalkTheDike x = night(4, 2, "risk (water=1)*old*200+(water=2)*(1-old)*200;seen 0;harm 1;", 0, 0);
        x.set(0, 0, 1);
        x.water(0, 1);
        x.water(2, 2);
        Due.is("the fourth", x.drawn(seedOf(1, 0, 0, 1, 0), 1), 2);
        Due.is("not the fifth", x.drawn(seedOf(1, 0, 0, 0, 1), 1), 1);
        Due.is("nor the third", x.drawn(seedOf(1, 0, 1, 0, 0), 1), 1);
        // if PIECE 0 has no hole it draws in each hour: 5 of PIECE 0, 6 of PIECE 1 in hour 2
        Due.is("the sixth", x.drawn(seedOf(0, 0, 0, 0, 0, 1), 1), 1);
        Due.is("not the fourth", x.drawn(seedOf(0, 0, 0, 1, 0, 0), 1), 0);
    }

    @Says(of = 0, value = "one without a hole one LOT: it has one of step 1, if LOT modulo 1000 is less than RISK;")
    static void lotAndRisk() {
        WalkTheDike x = night(2, 2, "risk 200;seen 0;harm 1;", 0);
        WalkTheDike y = night(2, 2, "risk 0;seen 0;harm 1;", 0);
        WalkTheDike z = night(2, 2, "risk 1;seen 0;harm 1;", 0);
        for (int lot : new int[] {0, 1, 199, 200, 999}) {
            int seed = 0;
            while (lot(seed, 1) % 1000 != lot || lot(seed, 2) % 1000 == 0) {
                seed++;
            }
            Due.is("RISK 200, LOT " + lot, x.drawn(seed, 1), lot < 200 ? 1 : 0);
            Due.is("RISK 0, LOT " + lot, y.drawn(seed, 1), 0);
            Due.is("RISK 1, LOT " + lot, z.drawn(seed, 1), lot < 1 ? 1 : 0);
        }
        // of step 1: with BREAKS 2 it breaks in the next hour, not in this one
        int seed = seedOf(1);
        x.night(0, 1);
        Due.is("not broken in its hour", x.drawn(seed, 1), 0);
        x.night(0, 3);
        x.night(1, 3);
        Due.is("broken in hour 2", x.drawn(seed, 1), 1);
        x.night(0, 2);
        Due.is("not in hour 1", x.drawn(seed, 1), 0);
    }

    @Says(of = 0, value = "one with a hole goes on by a step, and may be broken (HARM of BREAKS).")
    static void goesOn() {
        for (int breaks = 2; breaks <= 6; breaks++) {
            // one hole, begun in hour 0, draws no LOT as it goes on; of PIECE 1 the LOTS are 2, 3, ..
            WalkTheDike x = night(8, breaks, "risk (water=1)*old*200+(water=2)*(1-old)*200;seen 0;harm step*100+water;", 0, 0);
            x.set(0, 0, 1);
            x.water(0, 1);
            x.water(breaks - 1, 5);
            int seed = seedOf(1);
            Due.is("BREAKS " + breaks + ": HARM, once", x.drawn(seed, 0), breaks * 100 + 5);
            Due.is("BREAKS " + breaks + ": broken", x.drawn(seed, 1), 1);
            x.night(0, breaks - 1);
            Due.is("BREAKS " + breaks + ": HARM ahead of it", x.drawn(seed, 0), 0);
        }
        WalkTheDike y = night(4, 6, "risk (water=1)*old*200+(water=2)*(1-old)*200;seen 0;harm 1;", 0, 0);
        y.night(0, 8);
        y.set(0, 0, 1);
        y.water(0, 1);
        y.water(2, 2);
        // PIECE 0 draws 1; PIECE 1 draws 2, 3, 4 in the hours 0, 1, 2: broken in hour 7
        Due.is("the fourth", y.drawn(seedOf(1, 0, 0, 1, 0, 0), 1), 2);
        Due.is("not the sixth", y.drawn(seedOf(1, 0, 0, 0, 0, 1), 1), 1);
    }

    @Says(of = 0, value = "Then each look, as above, at one that has a hole draws one LOT: found, if LOT modulo 100 is less"
        + " than SEEN: HARM of its step, it has none.")
    static void lotAndSeen() {
        // one hour: the LOTS are 1 of RISK, 2 of the look
        for (int most : new int[] {0, 1, 50, 99, 100}) {
            WalkTheDike x = night(1, 2, "risk 200;seen " + most + ";harm step*7;", 0);
            x.lamp(0, 1);
            for (int lot : new int[] {0, 1, 49, 50, 98, 99}) {
                int seed = 0;
                while (lot(seed, 1) % 1000 >= 200 || lot(seed, 2) % 100 != lot) {
                    seed++;
                }
                Due.is("SEEN " + most + ", LOT " + lot, x.drawn(seed, 2), lot < most ? 1 : 0);
                Due.is("SEEN " + most + ", LOT " + lot + ": HARM", x.drawn(seed, 0), lot < most ? 7 : 0);
            }
        }
        // it has none: no further look draws, none breaks; PACE 1 finds all, PACE 2 none
        WalkTheDike y = night(2, 2, "risk water*200;seen (pace=1)*100;harm 1;", 0, 0);
        y.water(0, 1);
        y.man(0, 0, 10, 0);
        y.man(0, 0, 20, 0);
        // 1 of RISK, 2 of the first look; 3 of PIECE 1's RISK
        Due.is("the third", y.drawn(seedOf(1, -1, 1, 0), 1), 1);
        Due.is("not the fourth", y.drawn(seedOf(1, -1, 0, 1), 1), 0);
        Due.is("found once", y.drawn(seedOf(1, -1, 0, 1), 2), 1);
        // by numbers: the first draws in vain, the other finds; 4 of PIECE 1's RISK
        y.pace(0, 2);
        y.pace(1, 1);
        Due.is("the fourth", y.drawn(seedOf(1, -1, -1, 1, 0), 1), 1);
        Due.is("not the third", y.drawn(seedOf(1, -1, 1, 0, 0), 1), 0);
        // ahead of a LAMP and of THE VILLAGE, by which none are seen
        for (int who = 0; who < 2; who++) {
            WalkTheDike w = night(2, 2, "risk water*200;seen (pace=1)*100;harm 1;", 0, 0);
            w.water(0, 1);
            w.man(0, 0, 10, 0);
            w.lamp(0, who);
            w.night(3, 1);
            w.night(4, 0);
            w.call(-who);
            Due.is("a MAN first", w.drawn(seedOf(1, -1, 1, 0), 1), 1);
            Due.is("a MAN first", w.drawn(seedOf(1, -1, 0, 1), 1), 0);
        }
        // a look at one without a hole draws none: 2 of PIECE 1's RISK
        Due.is("the second", y.drawn(seedOf(0, 1, 0), 1), 1);
        Due.is("not the third", y.drawn(seedOf(0, 0, 1), 1), 0);
        // a look at a broken one draws none, and does not find it
        WalkTheDike z = night(3, 2, "risk (water=1)*old*200+(water=2)*(1-old)*200;seen 0;harm 1;", 0, 0);
        z.set(0, 0, 1);
        z.water(0, 1);
        z.water(1, 2);
        z.night(4, 1);
        z.night(3, 1);
        z.call(0);
        // 1, 2 in hour 0; PIECE 0 breaks in hour 1, 3 of PIECE 1
        Due.is("the third", z.drawn(seedOf(1, -1, 1, 0), 1), 2);
        Due.is("not the fourth", z.drawn(seedOf(1, -1, 0, 1), 1), 1);
        // nor in the hours behind that: 4 of PIECE 1 in hour 2
        z.night(0, 4);
        z.water(1, 0);
        z.water(2, 2);
        Due.is("the fourth", z.drawn(seedOf(1, -1, -1, 1, 0), 1), 2);
        Due.is("not the fifth", z.drawn(seedOf(1, -1, -1, 0, 1), 1), 1);
        Due.is("none is found", z.drawn(seedOf(1, -1, -1, 1, 0), 2), 0);
    }
}
