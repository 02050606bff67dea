/** Promises 18 to 29. */
public final class EdgesOfHarmTest extends Edges {
    /** A hole that begins in an hour of WATER 1 breaks in the next, and harms its WORTH; each look finds all. */
    private static final String AT_ONCE = "risk (water=1)*100;seen 100;harm (step=2)*worth;";

    public static void main(String[] args) throws ReflectiveOperationException {
        hold(EdgesOfHarmTest.class);
    }

    private static WalkTheDike atOnce(int hours, int... worths) {
        return night(hours, 2, AT_ONCE, worths);
    }

    @Says(of = 18, value = "What 0 ALL HARM, 1 all PARTS that are broken, 2 that are found (each time).")
    static void run() {
        // holes begin in hour 0; under the LAMP 50000000, then 25000000 are found, 25000000 break
        WalkTheDike x = night(3, 3, "risk water*100;seen 50;harm step;", 0, 0);
        x.water(0, 1);
        x.lamp(0, 1);
        row(x, "run(%d)", 50000000 + 50000000 + 75000000 + 300000000, 25000000 + 100000000, 75000000, NO);
        x.lamp(1, 1);
        row(x, "run(%d)", 2 * 175000000, 2 * 25000000, 2 * 75000000, NO);
        // each time: more than the whole
        WalkTheDike y = night(12, 6, "risk 200;seen 100;harm 1;", 0);
        y.lamp(0, 1);
        row(y, "run(%d)", 2400000000L, 0, 2400000000L, NO);
        row(new WalkTheDike(), "run(%d)", 0, 0, 0, NO);
        // none break in fewer HOURS than BREAKS
        WalkTheDike z = night(1, 2, "risk 200;seen 0;harm 1;", 0);
        row(z, "run(%d)", 0, 0, 0, NO);
    }

    @Says(of = 18, value = "NO: what.")
    static void runNo() {
        beyond(NEW, "run(%d)", 0, 2, NO);
        beyond(ALL, "run(%d)", 0, 2, NO);
    }

    @Says(of = 19, value = "Likewise of one PIECE.")
    static void harm() {
        WalkTheDike x = night(3, 3, "risk water*100;seen 50;harm step;", 0, 0);
        x.water(0, 1);
        x.lamp(0, 1);
        row(x, "harm(0, %d)", 175000000, 25000000, 75000000, NO);
        row(x, "harm(1, %d)", 300000000, 100000000, 0, NO);
        WalkTheDike y = Worlds.full();
        for (int what = 0; what <= 2; what++) {
            long all = 0;
            for (int p = 0; p < 8; p++) {
                all += y.harm(p, what);
            }
            is(y, "run(" + what + ")", all);
        }
    }

    @Says(of = 19, value = "NO: none such.")
    static void harmNo() {
        beyond(SOME, "harm(%d, 0)", 0, 2, NO);
        beyond(ALL, "harm(%d, 2)", 0, 7, NO);
        beyond(SOME, "harm(0, %d)", 0, 2, NO);
        refused(NEW, NO, "harm(0, 0)");
    }

    @Says(of = 20, value = "PARTS of a PIECE that have a hole of a step behind an hour (step 0: none; BREAKS: broken).")
    static void state() {
        for (int breaks = 2; breaks <= 6; breaks++) {
            WalkTheDike x = night(8, breaks, "risk (water=1)*100;seen 0;harm 1;", 0, 0);
            x.water(0, 1);
            for (int h = 0; h < 8; h++) {
                for (int step = 0; step <= breaks; step++) {
                    long want = step == 0 ? 900000000 : step == Math.min(h + 1, breaks) ? 100000000 : 0;
                    is(x, "state(1, " + h + ", " + step + ")", want);
                }
                is(x, "state(1, " + h + ", " + (breaks + 1) + ")", NO);
            }
        }
        // behind the hour: behind its looks, too
        WalkTheDike y = night(1, 2, "risk 100;seen 50;harm 1;", 0);
        y.lamp(0, 1);
        row(y, "state(0, 0, %d)", 950000000, 50000000, 0, NO);
    }

    @Says(of = 20, value = "NO: PIECE, hour, step.")
    static void stateNo() {
        beyond(SOME, "state(%d, 0, 0)", 0, 2, NO);
        beyond(SOME, "state(0, %d, 0)", 0, 7, NO);
        beyond(SOME, "state(0, 0, %d)", 0, 4, NO);
        beyond(ALL, "state(%d, 0, 0)", 0, 7, NO);
        beyond(ALL, "state(0, %d, 0)", 0, 11, NO);
        beyond(ALL, "state(0, 0, %d)", 0, 6, NO);
        refused(NEW, NO, "state(0, 0, 0)");
    }

    @Says(of = 21, value = "The PIECE of which most PARTS are broken, of like ones the first; -1: of none any.")
    static void worst() {
        WalkTheDike x = night(2, 2, "risk worth;seen 0;harm 1;", 0, 0, 0);
        is(x, "worst()", -1);
        x.set(2, 1, 1);
        is(x, "worst()", 2);
        x.set(1, 1, 1);
        is(x, "worst()", 1);
        x.set(2, 1, 2);
        is(x, "worst()", 2);
        x.set(0, 1, 2);
        is(x, "worst()", 0);
        // one hour: none are broken yet
        x.night(0, 1);
        is(x, "worst()", -1);
        is(new WalkTheDike(), "worst()", -1);
        WalkTheDike y = night(2, 2, "risk worth;seen 0;harm 1;", 0, 0, 0, 0, 0, 0, 0, 1);
        is(y, "worst()", 7);
        // by the looks: one that is looked at has none; of those found but for 1 PART that breaks it is 1 PART
        WalkTheDike v = night(2, 2, "risk (water=1);seen 99;harm 1;", 0, 0, 0);
        v.water(0, 1);
        is(v, "worst()", 0);
        v.lamp(0, 1);
        is(v, "worst()", 1);
        v.lamp(1, 1);
        is(v, "worst()", 2);
        v.night(0, 1);
        v.night(3, 3);
        v.night(4, 0);
        v.call(0);
        v.lamp(2, 1);
        is(v, "worst()", -1);
        v.night(0, 2);
        // 1000000 by three looks: 10000, 100, 1
        v.man(0, 11, 10, 0);
        is(v, "harm(1, 1)", 1);
        is(v, "harm(2, 1)", 100);
        is(v, "worst()", 0);
        v.man(0, 0, 10, 0);
        v.man(0, 22, 10, 0);
        is(v, "worst()", 0);
        is(v, "harm(0, 1)", 1);
        v.man(0, 0, 10, 0);
        is(v, "harm(0, 1)", 1);
        Due.law(v, "risk (water=1);seen 100;harm 1;");
        is(v, "worst()", -1);
        // by the broken ones, not by their HARM
        WalkTheDike z = night(2, 2, "risk 100-worth;seen 0;harm worth;", 0, 99);
        is(z, "worst()", 0);
    }

    @Says(of = 22, value = "ALL HARM less what it is with ONE MORE LOOK at a PIECE in an hour.")
    static void more() {
        WalkTheDike x = atOnce(3, 5, 7);
        x.water(0, 1);
        row(x, "more(0, %d)", 500000000, 0, 0, NO);
        row(x, "more(1, %d)", 700000000, 0, 0, NO);
        // below 0, if it harms more: all that it finds
        Due.law(x, "risk (water=1)*100;seen 100;harm step<2;");
        row(x, "more(0, %d)", -100000000, 0, 0, NO);
        // in the last hour of twelve
        WalkTheDike y = night(12, 6, "risk (water=1)*100;seen 50;harm 2;", 0, 0, 0, 0, 0, 0, 0, 0);
        y.water(11, 1);
        is(y, "more(7, 11)", -100000000);
        is(y, "more(7, 10)", 0);
        // it would be looked at already
        y.lamp(7, 1);
        is(y, "more(7, 11)", -50000000);
    }

    @Says(of = 22, value = "NO: none such.")
    static void moreNo() {
        beyond(SOME, "more(%d, 0)", 0, 2, NO);
        beyond(SOME, "more(0, %d)", 0, 7, NO);
        beyond(ALL, "more(%d, 0)", 0, 7, NO);
        beyond(ALL, "more(0, %d)", 0, 11, NO);
        refused(NEW, NO, "more(0, 0)");
    }

    @Says(of = 23, value = "Where that is most, if above 0,")
    static void bestLookMost() {
        WalkTheDike x = atOnce(4, 5, 7, 6);
        x.water(1, 1);
        row(x, "bestLook(%d)", 11, 700000000, NO);
        // by 1 PART it is above 0; it harms as much to find them: just 0; it harms more
        WalkTheDike y = night(2, 2, "risk 1;seen 100;harm (step=2)*worth+(step=1)*50;", 51);
        row(y, "bestLook(%d)", 0, 1000000, NO);
        y.set(0, 1, 50);
        row(y, "bestLook(%d)", -1, 0, NO);
        y.set(0, 1, 49);
        row(y, "bestLook(%d)", -1, 0, NO);
    }

    @Says(of = 23, value = "of like ones the first by hours, then by PIECES:")
    static void bestLookFirst() {
        // step 1 in hour 0, step 2 in hour 1: a look in each of them is as good
        WalkTheDike x = night(4, 3, "risk water*100;seen 100;harm (step=3)*worth;", 0, 5, 5);
        x.water(0, 1);
        is(x, "more(1, 0)", 500000000);
        is(x, "more(1, 1)", 500000000);
        is(x, "more(2, 0)", 500000000);
        is(x, "bestLook(0)", 1);
        // PIECE 0 in hour 1, PIECE 1 in hour 0: by hours ahead of PIECES
        WalkTheDike y = night(3, 2, "risk (water=1)*(1-old)*100+(water=2)*old*100;seen 100;harm (step=2)*5;", 0, 0);
        y.set(0, 0, 1);
        y.water(0, 1);
        y.water(1, 2);
        is(y, "more(0, 1)", 500000000);
        is(y, "more(1, 0)", 500000000);
        is(y, "bestLook(0)", 1);
    }

    @Says(of = 23, value = "what 0 10 times the hour, and the PIECE (-1: nowhere),")
    static void bestLookWhere() {
        for (int h : new int[] {0, 5, 10}) {
            for (int p : new int[] {0, 7}) {
                WalkTheDike x = atOnce(12, 0, 0, 0, 0, 0, 0, 0, 0);
                x.set(p, 1, 9);
                x.water(h, 1);
                is(x, "bestLook(0)", 10 * h + p);
            }
        }
        // what begins in the last hour does not break
        WalkTheDike y = atOnce(12, 9);
        y.water(11, 1);
        is(y, "bestLook(0)", -1);
        is(new WalkTheDike(), "bestLook(0)", -1);
    }

    @Says(of = 23, value = "1 how much it is (0).")
    static void bestLookMuch() {
        WalkTheDike x = atOnce(2, 5);
        is(x, "bestLook(1)", 0);
        x.water(0, 1);
        is(x, "bestLook(1)", 500000000);
        is(x, "more(0, 0)", 500000000);
        x.lamp(0, 1);
        is(x, "bestLook(1)", 0);
        is(new WalkTheDike(), "bestLook(1)", 0);
    }

    @Says(of = 23, value = "NO: what.")
    static void bestLookNo() {
        beyond(NEW, "bestLook(%d)", 0, 1, NO);
        beyond(ALL, "bestLook(%d)", 0, 1, NO);
    }

    @Says(of = 24, value = "There is a LAMP at a PIECE (1), or not (0): what it was.")
    static void lamp() {
        WalkTheDike x = eight();
        for (int p = 0; p < 8; p += 7) {
            String lamp = "lamp(" + p + ", ";
            is(x, lamp + "0)", 0);
            is(x, lamp + "1)", 0);
            is(x, lamp + "1)", 1);
            Due.is("looked", x.looked(0), 1 << p);
            is(x, lamp + "0)", 1);
            is(x, lamp + "0)", 0);
            is(x, "looked(0)", 0);
        }
    }

    @Says(of = 24, value = "NONE;")
    static void lampNone() {
        beyond(SOME, "lamp(%d, 1)", 0, 2, NONE);
        beyond(ALL, "lamp(%d, 0)", 0, 7, NONE);
        refused(NEW, NONE, "lamp(0, 0)", "lamp(0, 2)", "lamp(0, -1)");
    }

    @Says(of = 24, value = "BAD.")
    static void lampBad() {
        beyond(SOME, "lamp(0, %d)", 0, 1, BAD);
        beyond(SOME, "lamp(2, %d)", 0, 1, BAD);
    }

    @Says(of = 25, value = "The PIECE at which one more LAMP (what 0), one more of SACKS (1) would make ALL HARM least,")
    static void ready() {
        WalkTheDike x = atOnce(2, 5, 7, 6);
        x.water(0, 1);
        row(x, "ready(%d)", 1, 1, BAD);
        // where there is a LAMP, or 3 SACKS, there can't be one more
        x.lamp(1, 1);
        row(x, "ready(%d)", 2, 2, BAD);
        x.lamp(1, 0);
        x.set(1, 2, 3);
        row(x, "ready(%d)", 2, 2, BAD);
        // a LAMP is worth more at the one, SACKS at the other: what 0 WORTH 9, what 1 OLD
        WalkTheDike z = night(2, 2, "risk 100;seen 100-old*100;harm (step=2)*(worth+old*5);", 9, 5, 3);
        z.set(2, 0, 1);
        z.set(1, 0, 1);
        row(z, "ready(%d)", 0, 1, BAD);
        WalkTheDike y = night(4, 4, "risk water*100;seen 0;harm step;", 0);
        row(y, "ready(%d)", -1, -1, BAD);
        y.water(0, 1);
        row(y, "ready(%d)", -1, 0, BAD);
        // HARM of step 4 less SACKS: 4, 3, 2, 1
        for (int sacks = 0; sacks <= 3; sacks++) {
            y.set(0, 2, sacks);
            is(y, "run(0)", (4 - sacks) * 100000000L);
            is(y, "ready(1)", sacks < 3 ? 0 : -1);
        }
    }

    @Says(of = 25, value = "if less than it is,")
    static void readyLess() {
        // a LAMP by which none are seen, SACKS by which it harms as much
        WalkTheDike x = night(2, 2, "risk 100;seen 0;harm worth;", 5);
        row(x, "ready(%d)", -1, -1, BAD);
        // it harms more
        Due.law(x, "risk 100;seen 100;harm (step<2)*worth;");
        row(x, "ready(%d)", -1, -1, BAD);
        Due.law(x, "risk 1;seen 1;harm step;");
        row(x, "ready(%d)", 0, 0, BAD);
    }

    @Says(of = 25, value = "of like ones the first;")
    static void readyFirst() {
        WalkTheDike x = atOnce(2, 0, 5, 5, 5);
        x.water(0, 1);
        row(x, "ready(%d)", 1, 1, BAD);
        x.set(3, 1, 6);
        row(x, "ready(%d)", 3, 3, BAD);
        x.set(0, 1, 6);
        row(x, "ready(%d)", 0, 0, BAD);
    }

    @Says(of = 25, value = "-1: none.")
    static void readyNone() {
        row(new WalkTheDike(), "ready(%d)", -1, -1, BAD);
        WalkTheDike x = atOnce(2, 5, 5);
        row(x, "ready(%d)", -1, -1, BAD);
        x.water(0, 1);
        x.lamp(0, 1);
        x.lamp(1, 1);
        row(x, "ready(%d)", -1, -1, BAD);
        WalkTheDike y = night(5, 5, "risk 100;seen 0;harm step;", 0, 0);
        y.set(0, 2, 3);
        y.set(1, 2, 3);
        row(y, "ready(%d)", -1, -1, BAD);
    }

    @Says(of = 25, value = "BAD.")
    static void readyBad() {
        beyond(NEW, "ready(%d)", 0, 1, BAD);
        beyond(ALL, "ready(%d)", 0, 1, BAD);
    }

    @Says(of = 26, value = "The POST and END (no less than POST) by which, were a MAN an EVEN one with these, ALL HARM is least,")
    static void rounds() {
        // in hour 0 he should be at 2, in hour 1 at 1: from 2 to 1 is not taken
        WalkTheDike x = night(3, 2, "risk (water=1)*old*100+(water=2)*(1-old)*100;seen 100;harm (step=2)*worth;", 0, 5, 7);
        x.set(2, 0, 1);
        x.water(0, 1);
        x.water(1, 2);
        x.man(0, 0, 10, 0);
        row(x, "rounds(0, %d)", 22, 500000000, NO);
        x.set(1, 1, 9);
        row(x, "rounds(0, %d)", 1, 700000000, NO);
        // were he EVEN: a sleeper would sleep in hour 1, a PAIR would begin at END, a RISK one go elsewhere
        for (int kind : new int[] {0, 1, 2, 4, 5}) {
            WalkTheDike y = night(3, 2, "risk (water=1)*old*100+(water=2)*(1-old)*100;seen 100;harm (step=2)*worth;", 0, 5, 7);
            y.set(1, 0, 1);
            y.water(0, 1);
            y.water(1, 2);
            y.man(kind, 20, 10, 0);
            row(y, "rounds(0, %d)", 12, 0, NO);
        }
        WalkTheDike z = atOnce(2, 0, 0, 0, 0, 0, 0, 0, 1);
        z.water(0, 1);
        z.man(1, 0, 10, 0);
        row(z, "rounds(0, %d)", 77, 0, NO);
        // of one PIECE
        WalkTheDike w = atOnce(2, 5);
        w.water(0, 1);
        w.man(5, 0, 10, 0);
        row(w, "rounds(0, %d)", 0, 0, NO);
        // least, not less than it is: it can't be less here
        WalkTheDike v = night(2, 2, "risk 100;seen 0;harm 1;", 0, 0);
        v.man(0, 11, 10, 0);
        row(v, "rounds(0, %d)", 0, v.run(0), NO);
    }

    @Says(of = 26, value = "of like ones the first by POST, then by END:")
    static void roundsFirst() {
        WalkTheDike x = eight();
        x.man(1, 77, 10, 0);
        is(x, "rounds(0, 0)", 0);
        // in hour 1 at 1: from 0 to 1 or beyond, or at 1
        WalkTheDike y = atOnce(3, 0, 9, 0);
        y.water(1, 1);
        y.man(0, 0, 10, 0);
        is(y, "rounds(0, 0)", 1);
        // in hour 0 at 1: at 1, or from 1 to 2
        y.water(1, 0);
        y.water(0, 1);
        is(y, "rounds(0, 0)", 11);
        // in hour 1 at 2, by PACE 2: from 0 to 2; by PACE 1 from 1 to 2
        WalkTheDike z = atOnce(3, 0, 0, 9);
        z.water(1, 1);
        z.man(0, 0, 20, 0);
        is(z, "rounds(0, 0)", 2);
        z.pace(0, 1);
        is(z, "rounds(0, 0)", 12);
    }

    @Says(of = 26, value = "what 0 10 times POST, and END, 1 ALL HARM then.")
    static void roundsWhat() {
        WalkTheDike x = atOnce(2, 1, 2, 4, 8, 16, 32, 64, 99);
        x.water(0, 1);
        for (int p = 7; p >= 0; p--) {
            WalkTheDike y = atOnce(2, 0, 0, 0, 0, 0, 0, 0, 0);
            y.water(0, 1);
            y.man(0, 0, 10, 0);
            y.set(p, 1, 3);
            row(y, "rounds(0, %d)", 11 * p, 0, NO);
        }
        for (int m = 0; m < 5; m++) {
            x.man(0, 77, 10, 0);
        }
        row(x, "rounds(0, %d)", 66, 100000000L * (1 + 2 + 4 + 8 + 16 + 32), NO);
        row(x, "rounds(4, %d)", 66, 100000000L * (1 + 2 + 4 + 8 + 16 + 32), NO);
    }

    @Says(of = 26, value = "NO: none such.")
    static void roundsNo() {
        beyond(SOME, "rounds(%d, 0)", 0, 1, NO);
        beyond(SOME, "rounds(0, %d)", 0, 1, NO);
        beyond(ALL, "rounds(%d, 1)", 0, 4, NO);
        refused(NEW, NO, "rounds(0, 0)");
    }

    @Says(of = 27, value = "The PACE (1 .. 3) by which, were it a MAN's, ALL HARM is least,")
    static void quick() {
        for (int best = 1; best <= 3; best++) {
            for (int pace = 1; pace <= 3; pace++) {
                WalkTheDike x = night(2, 2, "risk 100;seen (pace=" + best + ")*100;harm step=2;", 0, 0);
                x.man(0, 11, 10 * pace, 0);
                x.man(0, 0, 10, 0);
                is(x, "quick(0)", best);
                is(x, "manTold(0, 3)", pace);
            }
        }
        // none beyond 1 and 3 would be better
        WalkTheDike w = night(2, 2, "risk 100;seen (3<pace)*100+(pace<1)*100;harm step=2;", 0);
        w.man(0, 0, 30, 0);
        is(w, "quick(0)", 1);
        // by where he comes: in hour 1 at 3
        WalkTheDike y = atOnce(3, 0, 0, 0, 9);
        y.water(1, 1);
        y.man(1, 3, 10, 0);
        is(y, "quick(0)", 3);
        // the last MAN of five
        WalkTheDike z = night(2, 2, "risk 100;seen (pace=2)*100;harm step=2;", 0, 0);
        for (int m = 0; m < 4; m++) {
            z.man(0, 0, 10, 0);
        }
        z.man(0, 11, 30, 0);
        is(z, "quick(4)", 2);
    }

    @Says(of = 27, value = "of like ones the least.")
    static void quickLeast() {
        WalkTheDike x = night(2, 2, "risk 100;seen 50;harm step=2;", 0);
        x.man(0, 0, 30, 0);
        is(x, "quick(0)", 1);
        Due.law(x, "risk 100;seen (1<pace)*100;harm step=2;");
        is(x, "quick(0)", 2);
        Due.law(x, "risk 100;seen (pace<3)*100;harm step=2;");
        is(x, "quick(0)", 1);
    }

    @Says(of = 27, value = "-5: no such MAN.")
    static void quickNone() {
        beyond(SOME, "quick(%d)", 0, 1, -5);
        beyond(ALL, "quick(%d)", 0, 4, -5);
        refused(NEW, -5, "quick(0)");
    }

    @Says(of = 28, value = "The PIECE no farther by his PACE from where a MAN is in the hour ahead,")
    static void nextPiece() {
        for (int pace = 1; pace <= 3; pace++) {
            // he stands at 4; in hour 1 it is at all others that holes begin, the more the farther
            WalkTheDike x = atOnce(3, 9, 8, 7, 6, 0, 5, 4, 3);
            x.water(1, 1);
            x.man(0, 44, 10 * pace, 0);
            is(x, "next(0, 1, 0)", 4 - pace);
            WalkTheDike y = atOnce(3, 3, 4, 5, 0, 6, 7, 8, 9);
            y.water(1, 1);
            y.man(0, 33, 10 * pace, 0);
            is(y, "next(0, 1, 0)", 3 + pace);
            // no farther than the dike
            WalkTheDike z = atOnce(3, 9, 0, 0, 0, 0, 0, 0, 0);
            z.water(1, 1);
            z.man(0, 0, 10 * pace, 0);
            is(z, "next(0, 1, 0)", 0);
            z.man(0, 77, 10 * pace, 0);
            z.set(7, 1, 99);
            is(z, "next(1, 1, 0)", 7);
        }
        // there is none beyond the dike's ends, though each look harms
        WalkTheDike v = night(3, 2, "risk (water=1)*100;seen 100;harm step<2;", 0, 0, 0, 0, 0, 0, 0, 0);
        v.water(1, 1);
        v.man(0, 0, 30, 0);
        v.man(0, 77, 30, 0);
        row(v, "next(0, 1, %d)", 0, 200000000, NO);
        row(v, "next(1, 1, %d)", 0 + 4, 200000000, NO);
        // from where he is in the hour ahead, not from where he would be
        WalkTheDike w = atOnce(4, 0, 0, 0, 0, 9);
        w.water(2, 1);
        w.man(1, 4, 30, 0);
        is(w, "next(0, 2, 0)", 4);
        w.pace(0, 1);
        // 0 1: to 2, 1 or 0; nothing lessens it
        is(w, "next(0, 2, 0)", 0);
    }

    @Says(of = 28, value = "by which, were he there in that hour (and then went on from there), ALL HARM is least,")
    static void nextLeast() {
        // EVEN 0 1 2 3 4; from 1 in hour 1 he goes on to 2, from 0 to 1
        WalkTheDike x = atOnce(4, 0, 0, 9, 0, 0);
        x.water(2, 1);
        x.man(1, 4, 10, 0);
        is(x, "next(0, 1, 0)", 1);
        is(x, "next(0, 1, 1)", 0);
        // put at END he is back from then on: 1 2 1
        WalkTheDike y = atOnce(5, 0, 9, 0, 0, 0);
        y.water(3, 1);
        y.man(1, 2, 20, 0);
        y.pace(0, 1);
        // 0 1 2 1 0: in hour 2 at 2, and back to 1 in hour 3; or at 0 in hour 2, and on to 1
        is(y, "next(0, 2, 0)", 0);
        is(y, "next(0, 2, 1)", 0);
        // at 1 in hour 2 he goes on to 2
        y.set(1, 1, 0);
        y.set(2, 1, 9);
        is(y, "next(0, 2, 0)", 1);
        // least, not less than it is; where he was is one of them
        WalkTheDike z = atOnce(3, 9, 0);
        z.water(1, 1);
        z.man(0, 0, 10, 0);
        is(z, "next(0, 1, 0)", 0);
        is(z, "next(0, 1, 1)", 0);
        // a PAIR, put at POST in hour 1, goes TOWARDS END again
        WalkTheDike w = atOnce(4, 0, 0, 9);
        w.water(2, 1);
        w.man(4, 21, 10, 0);
        is(w, "next(0, 1, 0)", 1);
        // a ROUND goes back to POST
        WalkTheDike v = atOnce(4, 9, 8);
        v.water(1, 1);
        v.man(0, 0, 10, 0);
        is(v, "next(0, 2, 0)", 0);
        is(v, "next(0, 1, 1)", 800000000);
    }

    @Says(of = 28, value = "of like ones the least:")
    static void nextLike() {
        WalkTheDike x = atOnce(3, 0, 5, 0, 5, 0);
        x.water(1, 1);
        x.man(0, 22, 10, 0);
        is(x, "next(0, 1, 0)", 1);
        x.set(3, 1, 6);
        is(x, "next(0, 1, 0)", 3);
        x.set(1, 1, 0);
        x.set(3, 1, 0);
        is(x, "next(0, 1, 0)", 1);
        x.pace(0, 3);
        is(x, "next(0, 1, 0)", 0);
    }

    @Says(of = 28, value = "that (what 0), ALL HARM then (1).")
    static void nextWhat() {
        WalkTheDike x = atOnce(3, 3, 5, 7, 0);
        x.water(1, 1);
        x.man(0, 33, 10, 0);
        row(x, "next(0, 1, %d)", 2, 800000000, NO);
        x.pace(0, 2);
        row(x, "next(0, 1, %d)", 2, 800000000, NO);
        x.set(1, 1, 9);
        row(x, "next(0, 1, %d)", 1, 1000000000, NO);
        // in the last hour, too
        row(x, "next(0, 2, %d)", 1, 1900000000, NO);
    }

    @Says(of = 28, value = "NO: MAN, hour (0, too), what.")
    static void nextNo() {
        beyond(SOME, "next(%d, 1, 0)", 0, 1, NO);
        beyond(SOME, "next(0, %d, 0)", 1, 7, NO);
        beyond(SOME, "next(0, 1, %d)", 0, 1, NO);
        beyond(ALL, "next(%d, 11, 1)", 0, 4, NO);
        beyond(ALL, "next(4, %d, 1)", 1, 11, NO);
        refused(NEW, NO, "next(0, 1, 0)");
        // of one hour none is behind another
        WalkTheDike x = eight();
        x.man(0, 0, 10, 0);
        x.night(0, 1);
        each(x, NO, "next(0, 0, 0)", "next(0, 1, 0)");
        x.night(0, 2);
        is(x, "next(0, 1, 0)", 0);
        is(x, "next(0, 2, 0)", NO);
    }

    @Says(of = 29, value = "The MAN by whom, did he walk, but never LOOK, ALL HARM is least,")
    static void spare() {
        WalkTheDike x = atOnce(2, 5, 4, 6);
        x.water(0, 1);
        x.man(0, 0, 10, 0);
        x.man(0, 11, 10, 0);
        x.man(0, 22, 10, 0);
        is(x, "spare()", 1);
        x.set(1, 1, 7);
        is(x, "spare()", 0);
        x.set(2, 1, 4);
        is(x, "spare()", 2);
        // who harms more by his looks
        Due.law(x, "risk (water=1)*100;seen 100;harm (step<2)*worth;");
        is(x, "spare()", 1);
        // even if it is more without him: there is but one
        WalkTheDike y = atOnce(2, 5);
        y.water(0, 1);
        y.man(0, 0, 10, 0);
        is(y, "spare()", 0);
        // the fifth
        WalkTheDike z = atOnce(2, 1, 2, 3, 4, 0);
        z.water(0, 1);
        for (int m = 0; m < 5; m++) {
            z.man(0, 11 * m, 10, 0);
        }
        is(z, "spare()", 4);
        // he sees none, but by his looks SINCE of PIECE 0 is 1: without them who goes by RISK comes there in hour 1
        WalkTheDike w = night(3, 2, "risk step*10;seen (pace=1)*100;harm (step=2)*old;", 0, 0);
        w.set(0, 0, 1);
        w.man(2, 10, 10, 0);
        w.man(0, 0, 20, 0);
        w.man(0, 11, 30, 0);
        is(w, "where(0, 1)", 1);
        is(w, "spare()", 1);
    }

    @Says(of = 29, value = "of like ones the first;")
    static void spareFirst() {
        WalkTheDike x = atOnce(2, 5, 5, 5);
        x.water(0, 1);
        for (int m = 0; m < 3; m++) {
            x.man(0, 11 * m, 10, 0);
        }
        is(x, "spare()", 0);
        x.set(0, 1, 6);
        is(x, "spare()", 1);
        // two at one PIECE
        x.man(0, 22, 10, 0);
        is(x, "spare()", 2);
    }

    @Says(of = 29, value = "-1: there is none.")
    static void spareNone() {
        is(new WalkTheDike(), "spare()", -1);
        is(eight(), "spare()", -1);
        WalkTheDike x = eight();
        x.man(0, 0, 10, 0);
        is(x, "spare()", 0);
    }
}
