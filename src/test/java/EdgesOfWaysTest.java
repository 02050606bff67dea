/** Terms: how MEN walk, who looks where, and SINCE when a PIECE was not LOOKED AT. */
public final class EdgesOfWaysTest extends Edges {
    public static void main(String[] args) throws ReflectiveOperationException {
        hold(EdgesOfWaysTest.class);
    }

    /** A told MAN among so many PIECES. */
    private static WalkTheDike told(int pieces, int post, int pace, int... row) {
        WalkTheDike x = Due.withPieces(new int[pieces]);
        x.night(0, 12);
        Due.row(x, 0, row);
        Due.is("a told one", x.man(3, 10 * post, 10 * pace, 0), 0);
        return x;
    }

    @Says(of = 0, value = "In hour 0 one is where he BEGINS; from where he is he GOES to where he is in the next hour.")
    static void begins() {
        WalkTheDike x = eight();
        x.night(0, 1);
        Due.row(x, 0, 7, 7, 7, 7, 7, 7, 7, 7, 7, 7, 7, 7);
        // the told one, too, is not where hour 0 tells
        for (int kind : new int[] {0, 1, 2, 3, 5}) {
            int m = x.man(kind, 25, 30, 0);
            Due.is("KIND " + kind, x.where(m, 0), 2);
        }
        is(x, "where(0, 1)", -7);
        WalkTheDike y = eight();
        y.man(1, 3, 10, 0);
        way(y, 0, 0, 1, 2, 3, 2, 1, 0, 1);
    }

    @Says(of = 0, value = "TOWARDS a PIECE: as far as his PACE lets him, no farther than that.")
    static void towards() {
        way(told(8, 0, 3, 0, 3, 7, 7, 7, 7, 7, 7, 7, 7, 7, 7), 0, 0, 3, 6, 7, 7);
        way(told(8, 0, 3, 0, 2, 3, 3, 7, 7, 7, 7, 7, 7, 7, 7), 0, 0, 2, 3, 3, 6);
        way(told(8, 0, 3, 0, 4, 5, 0, 0, 0, 0, 0, 0, 0, 0, 0), 0, 0, 3, 5, 2, 0, 0);
        way(told(8, 7, 3, 0, 4, 4, 3, 0, 0, 0, 0, 0, 0, 0, 0), 0, 7, 4, 4, 3, 0, 0);
        way(told(8, 7, 2, 0, 4, 4, 3, 0, 0, 0, 0, 0, 0, 0, 0), 0, 7, 5, 4, 3, 1, 0, 0);
        way(told(8, 7, 1, 0, 0, 0, 0, 0, 0, 0, 0, 0, 0, 0, 0), 0, 7, 6, 5, 4, 3, 2, 1, 0, 0, 0, 0, 0);
    }

    @Says(of = 0, value = "In each hour in which he LOOKS he looks where he is.")
    static void looksWhereHeIs() {
        WalkTheDike x = eight();
        x.night(0, 12);
        x.man(1, 7, 30, 0);
        // 0 3 6 7 4 1 0 3 6 7 4 1
        row(x, "looked(%d)", 1, 8, 64, 128, 16, 2, 1, 8, 64, 128, 16, 2);
    }

    @Says(of = 0, value = "KINDS: 0 ROUND: BEGINS at POST, GOES TOWARDS POST, always LOOKS.")
    static void round() {
        WalkTheDike x = eight();
        x.night(0, 12);
        x.man(0, 27, 35, 0);
        way(x, 0, times(12, 2));
        row(x, "looked(%d)", times(12, 4));
        // TOWARDS POST from afar, as who is told no PIECE goes
        way(told(5, 0, 1, 0, 4, 4, 4, 4, 7, 7, 7, 7, 7, 7, 7), 0, 0, 1, 2, 3, 4, 3, 2, 1, 0, 0, 0, 0);
    }

    @Says(of = 0, value = "1 EVEN (a ROUND): GOES TOWARDS END, or back TOWARDS POST: first not back; as he is at END,"
        + " back from then on; as he is at POST, not back")
    static void even() {
        WalkTheDike x = eight();
        x.night(0, 12);
        x.man(1, 1, 10, 0);
        way(x, 0, 0, 1, 0, 1, 0, 1, 0, 1, 0, 1, 0, 1);
        x.man(1, 7, 30, 0);
        way(x, 1, 0, 3, 6, 7, 4, 1, 0, 3, 6, 7, 4, 1);
        x.man(1, 70, 20, 0);
        way(x, 2, 7, 5, 3, 1, 0, 2, 4, 6, 7, 5, 3, 1);
        x.man(1, 53, 30, 0);
        way(x, 3, 5, 3, 5, 3, 5, 3, 5, 3, 5, 3, 5, 3);
        x.man(1, 24, 10, 5);
        way(x, 4, 2, 3, 4, 3, 2, 3, 4, 3, 2, 3, 4, 3);
        x.night(0, 1);
        is(x, "looked(0)", 1 | 1 | 128 | 32 | 4);
    }

    @Says(of = 0, value = "(of both, as POST is END, not back).")
    static void postIsEnd() {
        WalkTheDike x = eight();
        x.night(0, 12);
        int m = 0;
        for (int kind : new int[] {1, 4, 5}) {
            x.man(kind, 33, 10, 0);
            way(x, m++, times(12, 3));
        }
        // put beside it he goes back to it: in hour 2 he is there again
        WalkTheDike y = night(3, 2, "risk water*10;seen 100;harm (step=2)*worth+1;", 0, 9, 0);
        y.night(0, 4);
        y.water(2, 9);
        y.man(1, 11, 10, 0);
        Due.is("beside it in hour 1", y.next(0, 1, 1), 90000000L * 3);
    }

    @Says(of = 0, value = "2 RISK (a ROUND): GOES to the PIECE no farther than his PACE at which SINCE times RISK,"
        + " both of the hour in which he comes there, is most,")
    static void risk() {
        int[] worths = {0, 1, 2, 3, 4, 5, 6, 7};
        for (int pace = 1; pace <= 3; pace++) {
            WalkTheDike x = night(8, 4, "risk worth;seen 0;harm 0;", worths);
            x.man(2, 0, 10 * pace, 0);
            way(x, 0, 0, pace, 2 * pace);
        }
        // 2 times 2, 3 times 2 against 1 times 5; then 1 times 2 against 2 times 5
        WalkTheDike x = night(5, 4, "risk worth;seen 0;harm 0;", 2, 5);
        x.man(2, 10, 10, 0);
        way(x, 0, 1, 1, 0, 1, 1);
        // RISK is 0 in the hours 0 and 2, and is that of the hour in which he comes
        WalkTheDike y = night(4, 4, "risk water*worth;seen 0;harm 0;", 0, 0, 1);
        y.water(2, 1);
        y.man(2, 10, 10, 0);
        way(y, 0, 1, 1, 2, 2);
        // RISK itself is by SINCE of that hour: 2 in hour 1
        WalkTheDike z = night(3, 4, "risk (step=2)*9;seen 0;harm 0;", 0, 0);
        z.man(2, 10, 10, 0);
        way(z, 0, 1, 0, 1);
        // RISK by its bound: 200 and 999 are alike
        WalkTheDike w = night(2, 4, "risk worth*10;seen 0;harm 0;", 20, 99, 99);
        w.man(2, 0, 20, 0);
        w.lamp(1, 1);
        way(w, 0, 0, 2);
        w.lamp(2, 1);
        way(w, 0, 0, 0);
    }

    @Says(of = 0, value = "but stays where he is, if that is no less there; of like others the least.")
    static void riskLikeOnes() {
        WalkTheDike x = night(8, 4, "risk 10;seen 0;harm 0;", 0, 0, 0);
        x.man(2, 10, 10, 0);
        // SINCE 2 1 2: of 0 and 2 the least; 1 2 3: 1 of the two that he comes to; and so on
        way(x, 0, 1, 0, 1, 2, 1, 0, 1, 2);
        // twice 1 is no more than once 2
        WalkTheDike y = night(2, 4, "risk worth;seen 0;harm 0;", 1, 2, 1);
        y.man(2, 10, 10, 0);
        way(y, 0, 1, 1);
        y.set(2, 1, 2);
        way(y, 0, 1, 2);
        y.set(0, 1, 2);
        way(y, 0, 1, 0);
        y.set(1, 1, 3);
        way(y, 0, 1, 0);
        y.set(1, 1, 4);
        way(y, 0, 1, 1);
        // no RISK anywhere
        WalkTheDike z = night(8, 4, "risk 0;seen 0;harm 0;", 0, 0, 0);
        z.man(2, 10, 30, 0);
        way(z, 0, times(8, 1));
    }

    @Says(of = 0, value = "3 TOLD (a ROUND): GOES TOWARDS the PIECE that is told for that hour; if there is no such one,"
        + " as a ROUND.")
    static void toldOnes() {
        WalkTheDike x = told(5, 2, 1, 0, 4, 4, 5, 4, 4, 7, 7, 7, 0, 0, 0);
        way(x, 0, 2, 3, 4, 3, 4, 4, 3, 2, 2, 1, 0, 0);
        x.piece(0, 0);
        // 5 is a PIECE now, 7 is none
        way(x, 0, 2, 3, 4, 5, 4, 4, 3, 2, 2, 1, 0, 0);
        x.piece(0, 0);
        x.piece(0, 0);
        way(x, 0, 2, 3, 4, 5, 4, 4, 5, 6, 7, 6, 5, 4);
    }

    @Says(of = 0, value = "4 PAIR (an EVEN): BEGINS at END.")
    static void pair() {
        WalkTheDike x = eight();
        x.night(0, 12);
        x.man(4, 3, 10, 0);
        way(x, 0, 3, 2, 1, 0, 1, 2, 3, 2, 1, 0, 1, 2);
        x.man(4, 70, 30, 5);
        way(x, 1, 0, 3, 6, 7, 4, 1, 0, 3, 6, 7, 4, 1);
        row(x, "looked(%d)", 9, 12, 66, 129, 18, 6, 9, 12, 66, 129, 18, 6);
    }

    @Says(of = 0, value = "5 SLEEPER (an EVEN): doesn't LOOK in an hour that, modulo (MORE and 2), is MORE and 1;")
    static void sleeperLooks() {
        for (int more = 0; more <= 5; more++) {
            WalkTheDike x = Due.withPieces(0);
            x.night(0, 12);
            x.man(5, 0, 10 + more, 0);
            for (int h = 0; h < 12; h++) {
                Due.is("MORE " + more + ": looked(" + h + ")", x.looked(h), h % (more + 2) == more + 1 ? 0 : 1);
            }
        }
        WalkTheDike x = Due.withPieces(0);
        x.night(0, 12);
        x.man(5, 0, 10, 0);
        row(x, "looked(%d)", 1, 0, 1, 0, 1, 0, 1, 0, 1, 0, 1, 0);
        WalkTheDike y = Due.withPieces(0);
        y.night(0, 12);
        y.man(5, 0, 15, 0);
        row(y, "looked(%d)", 1, 1, 1, 1, 1, 1, 0, 1, 1, 1, 1, 1);
        // MORE of another KIND lets no one sleep
        for (int kind : new int[] {0, 1, 2, 4}) {
            WalkTheDike z = Due.withPieces(0);
            z.man(kind, 0, 10, 0);
            row(z, "looked(%d)", times(8, 1));
        }
    }

    @Says(of = 0, value = "into such an hour he doesn't GO.")
    static void sleeperGoes() {
        WalkTheDike x = eight();
        x.night(0, 12);
        x.man(5, 7, 10, 0);
        way(x, 0, 0, 0, 1, 1, 2, 2, 3, 3, 4, 4, 5, 5);
        x.man(5, 7, 15, 0);
        way(x, 1, 0, 1, 2, 3, 4, 5, 5, 6, 7, 6, 5, 4);
        // asleep at END, and back from there
        x.man(5, 2, 21, 0);
        way(x, 2, 0, 2, 2, 0, 2, 2, 0, 2, 2, 0, 2, 2);
    }

    @Says(of = 0, value = "LOOKED AT in an hour is a PIECE at which a MAN LOOKS, or there is a LAMP, or THE VILLAGE is:")
    static void lookedAt() {
        WalkTheDike x = eight();
        x.night(0, 3);
        row(x, "looked(%d)", 0, 0, 0);
        x.man(5, 66, 10, 0);
        row(x, "looked(%d)", 64, 0, 64);
        x.lamp(7, 1);
        row(x, "looked(%d)", 192, 128, 192);
        x.night(3, 1);
        x.night(4, 1);
        x.call(0);
        row(x, "looked(%d)", 192, 129, 193);
        // at one PIECE, all of them
        x.lamp(0, 1);
        x.man(0, 0, 10, 0);
        row(x, "looked(%d)", 193, 129, 193);
    }

    @Says(of = 0, value = "PIECES 0 .. TRUST less 1, in all hours from COMES behind that in which it was CALLED.")
    static void villageComes() {
        WalkTheDike x = eight();
        x.night(0, 12);
        x.night(4, 3);
        x.call(4);
        row(x, "looked(%d)", 0, 0, 0, 0, 0, 0, 0, 15, 15, 15, 15, 15);
        x.night(3, 1);
        row(x, "looked(%d)", 0, 0, 0, 0, 0, 0, 0, 1, 1, 1, 1, 1);
        x.night(3, 0);
        row(x, "looked(%d)", times(12, 0));
        x.night(3, 8);
        x.night(4, 0);
        x.call(11);
        row(x, "looked(%d)", 0, 0, 0, 0, 0, 0, 0, 0, 0, 0, 0, 255);
        x.night(4, 1);
        row(x, "looked(%d)", times(12, 0));
        x.night(4, 11);
        x.call(0);
        row(x, "looked(%d)", 0, 0, 0, 0, 0, 0, 0, 0, 0, 0, 0, 255);
        // of those that are there
        WalkTheDike y = Due.withPieces(0, 0);
        y.night(3, 8);
        y.night(4, 0);
        y.call(0);
        is(y, "looked(0)", 3);
    }

    @Says(of = 0, value = "SINCE of a PIECE in an hour: 1 in hour 0; 1 behind an hour in which it was LOOKED AT,"
        + " else 1 more than in the hour ahead.")
    static void since() {
        // RISK is 0 but in one hour: those that have a hole of step 1 behind it tell SINCE
        for (int h = 0; h < 12; h++) {
            WalkTheDike x = night(12, 2, "risk water*step*10;seen 0;harm 0;", 0);
            x.water(h, 1);
            Due.is("never looked at, hour " + h, x.state(0, h, 1), (h + 1) * 10000000L);
        }
        // EVEN 0 1 0 1: 0 is LOOKED AT in the hours 0, 2
        int[] sinces = {1, 1, 2, 1, 2, 1};
        for (int h = 0; h < 6; h++) {
            WalkTheDike x = night(12, 2, "risk water*step*10;seen 0;harm 0;", 0, 0, 0);
            x.man(1, 1, 10, 0);
            x.water(h, 1);
            Due.is("looked at in 0, 2, 4: hour " + h, x.state(0, h, 1), sinces[h] * 10000000L);
            Due.is("never looked at: hour " + h, x.state(2, h, 1), (h + 1) * 10000000L);
        }
        // where he sleeps it isn't LOOKED AT
        WalkTheDike y = night(3, 2, "risk water*step*10;seen 0;harm 0;", 0);
        y.man(5, 0, 10, 0);
        y.water(2, 1);
        is(y, "state(0, 2, 1)", 20000000L);
    }
}
