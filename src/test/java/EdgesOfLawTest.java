/** Promises 7 to 10. */
public final class EdgesOfLawTest extends Edges {
    public static void main(String[] args) throws ReflectiveOperationException {
        hold(EdgesOfLawTest.class);
    }

    @Says(of = 7, value = "The n lowest bytes of w, the highest first, come behind THE TAPE's: how many it has.")
    static void feed() {
        WalkTheDike x = Due.withPieces(0);
        // "risk 7;s" "een 8;" "h" "arm 9;": what stands above the n lowest bytes is left
        is(x, "feed(" + 0x7269736b20373b73L + ", 8)", 8);
        is(x, "feed(" + 0x7a7a65656e20383bL + ", 6)", 14);
        is(x, "feed(" + 0x7a7a7a7a7a7a7a68L + ", 1)", 15);
        is(x, "feed(" + (0x80ff61726d20393bL) + ", 6)", 21);
        is(x, "text()", 1);
        is(x, "force(1)", 0);
        row(x, "asks(%d, 0, 0, 0, 0)", 7, 8, 9);
        // each n: the byte %, the highest of the n, is the FAULT; a letter stands in all others
        for (int n = 1; n <= 8; n++) {
            long w = 0x7a7a7a7a7a7a7a7aL;
            int shift = 8 * (n - 1);
            w = w & ~(255L << shift) | (long) '%' << shift;
            Due.is("feed", x.feed(0x7269736bL, 4), 4);
            Due.is("feed by " + n, x.feed(w, n), 4 + n);
            Due.is("FAULT by " + n, x.text(), -104);
            Due.is("feed", x.feed(0x7269736b20312b20L, 8), 8);
            w = w & ~(255L << shift) | 0x20L << shift;
            Due.is("feed by " + n, x.feed(w, n), 8 + n);
            Due.is("FAULT by " + n, x.text(), -109);
        }
        // a w below 0, the least and the most one
        is(x, "feed(-1, 8)", 8);
        is(x, "feed(" + Long.MIN_VALUE + ", 8)", 16);
        is(x, "feed(" + Long.MAX_VALUE + ", 8)", 24);
        is(x, "count(9)", 24);
        is(x, "text()", -100);
    }

    @Says(of = 7, value = "BAD: n not 1 .. 8;")
    static void feedBad() {
        within(NEW, "feed(0, %d)", 1, 1, 8, 8);
        beyond(NEW, "feed(0, %d)", 1, 8, BAD);
        beyond(SOME, "feed(32, %d)", 1, 8, BAD);
        beyond(ALL, "feed(32, %d)", 1, 8, BAD);
    }

    @Says(of = 7, value = "FULL.")
    static void feedFull() {
        refused(ALL, FULL, "feed(32, 1)", "feed(32, 8)", "feed(0, 5)");
        for (int n = 1; n <= 8; n++) {
            WalkTheDike x = new WalkTheDike();
            Due.feed(x, " ".repeat(160 - n));
            is(x, "feed(32, 9)", BAD);
            if (n < 8) {
                Due.is("one too many", x.feed(0x2020202020202020L, n + 1), FULL);
            }
            is(x, "count(9)", 160 - n);
            Due.is("just so many", x.feed(0x2020202020202020L, n), 160);
            is(x, "feed(32, 1)", FULL);
            is(x, "count(9)", 160);
            is(x, "text()", -260);
            is(x, "feed(32, 1)", 1);
        }
    }

    @Says(of = 8, value = "THE TAPE, which is empty then (by a FAULT, too), is a TEXT: its number;")
    static void text() {
        WalkTheDike x = Due.withPieces(0);
        for (int t = 1; t < 6; t++) {
            Due.feed(x, "risk " + t + ";seen " + t + "0;harm " + t + "00;");
            is(x, "text()", t);
            is(x, "count(9)", 0);
            is(x, "count(7)", t + 1);
            is(x, "count(8)", 0);
        }
        for (int t = 1; t < 6; t++) {
            x.force(t);
            row(x, "asks(%d, 0, 0, 0, 0)", t, 10 * t, 100 * t);
        }
        // by a FAULT, too: what comes then begins anew
        WalkTheDike y = new WalkTheDike();
        Due.is("a FAULT", Due.text(y, "risk 1;seen"), -111);
        is(y, "count(9)", 0);
        is(y, "count(7)", 1);
        Due.is("a TEXT", Due.text(y, "risk 1;seen 2;harm 3;"), 1);
        is(y, "text()", -100);
    }

    @Says(of = 8, value = "-100 less the place of its FAULT.")
    static void textFault() {
        WalkTheDike x = new WalkTheDike();
        is(x, "text()", -100);
        Due.is("at 0", Due.text(x, "%"), -100);
        Due.is("at 1", Due.text(x, " %"), -101);
        Due.is("at 4", Due.text(x, "risk"), -104);
        Due.is("at 159", Due.text(x, " ".repeat(159) + "%"), -259);
        Due.is("at 160", Due.text(x, " ".repeat(160)), -260);
        is(x, "count(7)", 1);
        // nothing of it is kept
        Due.is("at 20", Due.text(x, "risk 9;seen 9;harm 9"), -120);
        is(x, "force(1)", BAD);
        Due.is("a TEXT", Due.text(x, "risk 1;seen 2;harm 3;"), 1);
        x.piece(0, 0);
        x.force(1);
        row(x, "asks(%d, 0, 0, 0, 0)", 1, 2, 3);
    }

    @Says(of = 8, value = "FULL (ahead of the FAULT; then THE TAPE stays).")
    static void textFull() {
        refused(ALL, FULL, "text()");
        WalkTheDike x = new WalkTheDike();
        for (int t = 1; t < 5; t++) {
            Due.text(x, "risk 1;seen 1;harm 1;");
        }
        Due.is("a FAULT while there is room", Due.text(x, "%"), -100);
        Due.is("the sixth", Due.text(x, "risk 1;seen 1;harm 1;"), 5);
        is(x, "text()", FULL);
        is(x, "feed(37, 1)", 1);
        is(x, "text()", FULL);
        is(x, "count(9)", 1);
        is(x, "feed(37, 2)", 3);
        is(x, "text()", FULL);
        is(x, "count(9)", 3);
        is(x, "count(7)", 6);
    }

    @Says(of = 9, value = "A TEXT is THE LAW: which was.")
    static void force() {
        WalkTheDike x = Due.withPieces(0);
        is(x, "force(0)", 0);
        for (int t = 1; t < 6; t++) {
            Due.text(x, "risk 10" + t + ";seen 1;harm 1;");
            // a new TEXT is not THE LAW yet
            is(x, "count(8)", t - 1);
            is(x, "force(" + t + ")", t - 1);
            is(x, "count(8)", t);
            is(x, "asks(0, 0, 0, 0, 0)", 100 + t);
        }
        is(x, "force(5)", 5);
        is(x, "force(0)", 5);
        is(x, "asks(0, 0, 0, 7, 0)", 7);
    }

    @Says(of = 9, value = "BAD.")
    static void forceBad() {
        beyond(NEW, "force(%d)", 0, 0, BAD);
        beyond(SOME, "force(%d)", 0, 1, BAD);
        beyond(ALL, "force(%d)", 0, 5, BAD);
    }

    @Says(of = 10, value = "Of a PIECE in an hour (0 .. 11)")
    static void asksOfHours() {
        WalkTheDike x = eight();
        x.night(0, 1);
        x.set(7, 0, 1);
        x.water(0, 2);
        x.water(11, 3);
        // the hours behind the night, too
        is(x, "asks(0, 0, 0, 0, 0)", 8);
        is(x, "asks(0, 7, 11, 0, 0)", 32);
        is(x, "asks(0, 7, 1, 0, 0)", 20);
        within(SOME, "asks(0, 0, %d, 0, 0)", 0, 9 * 1, 11, 9 * 5);
    }

    @Says(of = 10, value = "part 0 RISK (step: SINCE), 1 SEEN, 2 HARM")
    static void asksOfParts() {
        WalkTheDike x = Due.withPieces(0);
        Due.law(x, "risk 100+step;seen 20+step+pace*10;harm 300+step;");
        row(x, "asks(%d, 0, 0, 0, 0)", 100, 20, 300);
        row(x, "asks(%d, 0, 0, 12, 3)", 112, 62, 312);
        x.set(0, 2, 3);
        // HARM alone by SACKS: step 0 at least
        row(x, "asks(%d, 0, 0, 2, 1)", 102, 32, 300);
        row(x, "asks(%d, 0, 0, 3, 1)", 103, 33, 300);
        row(x, "asks(%d, 0, 0, 4, 1)", 104, 34, 301);
    }

    @Says(of = 10, value = "(step 0 .. 12, pace 0 .. 3).")
    static void asksOfStepsAndPaces() {
        WalkTheDike x = Due.withPieces(0);
        Due.law(x, "risk step*10+pace;seen step+pace*20;harm step*10+pace;");
        for (int step = 0; step <= 12; step++) {
            for (int pace = 0; pace <= 3; pace++) {
                String rest = ", 0, 0, " + step + ", " + pace + ")";
                is(x, "asks(0" + rest, step * 10);
                is(x, "asks(1" + rest, step + pace * 20);
                is(x, "asks(2" + rest, step * 10);
            }
        }
    }

    @Says(of = 10, value = "-5: no such PIECE;")
    static void asksNone() {
        beyond(SOME, "asks(0, %d, 0, 0, 0)", 0, 2, -5);
        beyond(ALL, "asks(0, %d, 0, 0, 0)", 0, 7, -5);
        refused(NEW, -5, "asks(0, 0, 0, 0, 0)", "asks(3, 0, 0, 0, 0)", "asks(0, 0, 12, 0, 0)", "asks(0, 0, 0, 13, 0)",
            "asks(0, 0, 0, 0, 4)");
    }

    @Says(of = 10, value = "-7: part, hour, step, pace.")
    static void asksNotAsTold() {
        beyond(SOME, "asks(%d, 0, 0, 0, 0)", 0, 2, -7);
        for (int part = 0; part <= 2; part++) {
            beyond(SOME, "asks(" + part + ", 0, %d, 0, 0)", 0, 11, -7);
            beyond(SOME, "asks(" + part + ", 0, 0, %d, 0)", 0, 12, -7);
            beyond(SOME, "asks(" + part + ", 0, 0, 0, %d)", 0, 3, -7);
        }
    }
}
