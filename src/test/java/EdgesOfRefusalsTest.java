/** Terms: what AN IMAGE keeps, SHEETS, REFUSALS. */
public final class EdgesOfRefusalsTest extends Edges {
    public static void main(String[] args) throws ReflectiveOperationException {
        hold(EdgesOfRefusalsTest.class);
    }

    @Says(of = 0, value = "AN IMAGE keeps HOURS, BREAKS, WIND, TRUST, COMES, WATER, all of PIECES, LAMPS, PACES, CALLED,"
        + " THE LAW")
    static void imageKeeps() {
        // one thing is changed, and back: each has a world of its own
        String[][] changes = {
            {"night(0, %d)", "8", "3"}, {"night(1, %d)", "4", "6"}, {"night(2, %d)", "5", "9"}, {"night(3, %d)", "4", "0"},
            {"night(4, %d)", "2", "12"}, {"water(0, %d)", "1", "9"}, {"water(11, %d)", "5", "0"}, {"set(0, 0, %d)", "0", "1"},
            {"set(2, 1, %d)", "30", "99"}, {"set(1, 2, %d)", "1", "3"}, {"lamp(2, %d)", "1", "0"}, {"lamp(0, %d)", "0", "1"},
            {"pace(0, %d)", "1", "3"}, {"pace(1, %d)", "2", "1"}, {"call(%d)", "1", "-1"}, {"call(%d)", "1", "11"},
            {"force(%d)", "1", "0"},
        };
        for (String[] c : changes) {
            WalkTheDike x = Worlds.some();
            int was = Integer.parseInt(c[1]);
            int is = Integer.parseInt(c[2]);
            x.image();
            is(x, String.format(c[0], is), was);
            is(x, "back()", 3);
            is(x, String.format(c[0], is), was);
            // THE IMAGE is not what it was taken of: it stays, and back() can be called again
            is(x, "back()", 3);
            is(x, String.format(c[0], was), was);
        }
        allAtOnce();
        // what it does not keep: TEXTS, THE TAPE, SHEETS
        WalkTheDike y = Worlds.some();
        y.image();
        y.text();
        Due.text(y, "risk 1;seen 1;harm 1;");
        y.feed(0, 8);
        y.sheet(3, 0, 1);
        y.sheet(0, -1, 0);
        y.cell(2, 0, 99);
        is(y, "back()", 3);
        is(y, "count(7)", 3);
        is(y, "count(9)", 8);
        is(y, "cell(3, 0, 0)", 1);
        is(y, "cell(0, 0, 0)", -11);
        is(y, "man(3, 0, 10, 2)", BAD);
    }

    private static void allAtOnce() {
        WalkTheDike x = Worlds.some();
        x.image();
        for (String call : new String[] {"night(0, 1)", "night(1, 2)", "night(2, 0)", "night(3, 8)", "night(4, 0)", "call(5)",
            "force(0)", "pace(0, 2)", "set(0, 1, 1)", "set(1, 0, 0)", "set(2, 2, 2)", "lamp(1, 1)", "water(3, 0)"}) {
            Call.on(x, call);
        }
        x.back();
        Due.is("ALL HARM is as it was", x.run(0), Worlds.some().run(0));
        Due.is("DRAWN is as it was", x.drawn(3, 0), Worlds.some().drawn(3, 0));
    }

    @Says(of = 0, value = "(PIECES, MEN that came since stay as they are).")
    static void cameSince() {
        WalkTheDike x = Worlds.some();
        is(x, "image()", 3);
        x.piece(1, 44);
        x.set(3, 2, 2);
        x.lamp(3, 1);
        x.man(0, 33, 20, 0);
        x.pace(2, 3);
        is(x, "back()", 4);
        is(x, "count(5)", 4);
        is(x, "count(6)", 3);
        is(x, "set(3, 0, 0)", 1);
        is(x, "set(3, 1, 0)", 44);
        is(x, "set(3, 2, 0)", 2);
        is(x, "lamp(3, 0)", 1);
        is(x, "pace(2, 1)", 3);
        is(x, "where(2, 0)", 3);
        // an image of nothing
        WalkTheDike y = new WalkTheDike();
        is(y, "image()", 0);
        for (int p = 0; p < 8; p++) {
            y.piece(0, p + 1);
        }
        y.man(0, 77, 30, 0);
        is(y, "back()", 8);
        row(y, "taken(%d, 6)", 1, 2, 3, 4, 5, 6, 7, 8);
        is(y, "pace(0, 1)", 3);
    }

    @Says(of = 0, value = "SHEETS 0 .. 3 are rows of numbers, or missing (as all are at first):")
    static void sheets() {
        WalkTheDike x = new WalkTheDike();
        row(x, "cell(%d, 0, 0)", -11, -11, -11, -11, BAD);
        row(x, "sheet(%d, 0, 1)", 1, 1, 1, 1, BAD);
        row(x, "cell(%d, 0, 5)", 1, 1, 1, 1, BAD);
        row(x, "sheet(%d, -1, 0)", 1, 1, 1, 1, BAD);
        row(x, "cell(%d, 0, 0)", -11, -11, -11, -11, BAD);
        beyond(SOME, "sheet(%d, 0, 1)", 0, 3, BAD);
    }

    @Says(of = 0, value = "of sort 0 bytes, 1 shorts, 2 ints, 40 at most.")
    static void sorts() {
        for (int sort = 0; sort <= 2; sort++) {
            WalkTheDike x = new WalkTheDike();
            Due.is("40 of sort " + sort, x.sheet(0, sort, 40), 1);
            is(x, "cell(0, 39, 1)", 1);
            is(x, "cell(0, 40, 1)", -12);
            Due.is("41 of sort " + sort, x.sheet(0, sort, 41), BAD);
            Due.is("none of sort " + sort, x.sheet(0, sort, 0), 1);
            is(x, "cell(0, 0, 1)", -12);
        }
        // what each of them holds: -1, 7, and what is cut
        long[][] pieces = {{-1, 0}, {127, -1}, {128, -1}, {255, -1}, {256, 0}, {263, 7}, {-249, 7}, {32767, -1}, {32768, 0},
            {65535, -1}, {65536, 0}, {65543, 7}, {-65529, 7}};
        for (long[] p : pieces) {
            int v = (int) p[0];
            Due.is("a byte of " + v, judged(0, v), (byte) v >= 0 && (byte) v <= 7 ? -1 : 0);
            Due.is("a short of " + v, judged(1, v), (short) v >= 0 && (short) v <= 7 ? -1 : 0);
            Due.is("an int of " + v, judged(2, v), v >= 0 && v <= 7 ? -1 : 0);
        }
        beyond(SOME, "sheet(0, %d, 1)", -1, 2, BAD);
    }

    /** -1, if a number of a SHEET is one of eight PIECES; else 0. */
    private static int judged(int sort, int v) {
        WalkTheDike x = eight();
        x.night(0, 1);
        x.sheet(0, sort, 1);
        x.cell(0, 0, v);
        return x.judge(0, 1);
    }

    @Says(of = 0, value = "REFUSALS, of several the first one told")
    static void firstOneTold() {
        refused(ALL, BAD, "piece(2, 0)", "piece(0, 100)", "feed(0, 9)", "feed(0, 0)", "man(6, 0, 10, 0)", "man(3, 0, 10, 4)",
            "man(3, 0, 40, 3)", "man(3, 0, 10, 3)", "man(3, 0, 10, 0)", "judge(4, 4)", "sheet(4, 3, 41)", "sheet(4, 0, -1)",
            "sheet(0, 3, -1)", "cell(4, 99, 0)", "copy(4, -1, 0, -1, -1)", "copy(0, -1, 4, -1, -1)", "piecesBy(4, 3, -1, 9)",
            "piecesBy(0, 3, -1, 1)", "piecesBy(0, 2, -1, 9)", "taken(13, 7)", "taken(0, -1)", "trusts(12, -1)");
        refused(ALL, FULL, "piece(0, 0)", "feed(0, 1)", "text()", "man(0, 0, 10, 0)", "man(3, 0, 10, 2)");
        refused(ALL, -5, "set(8, 3, 100)", "asks(3, 8, 12, 13, 4)", "manTold(5, 17)", "where(5, 12)", "often(8, 2)");
        refused(ALL, NONE, "night(5, 13)", "night(-1, -1)", "water(12, 10)", "water(-1, -1)", "pace(5, 4)", "lamp(8, 2)");
        refused(SOME, -11, "man(3, 0, 10, 3)", "judge(3, 1)", "places(3)", "learn(3)", "cell(3, -1, 0)", "copy(3, -1, 0, -1, -1)",
            "copy(0, -1, 3, -1, -1)", "piecesBy(3, 0, -1, 1)", "taken(3, 5)", "taken(10, 6)");
        refused(SOME, BAD, "man(3, 0, 9, 3)", "judge(3, 4)", "judge(3, 0)");
        refused(SOME, -13, "copy(0, -1, 1, -1, -1)", "piecesBy(0, 1, -1, 1)");
        refused(SOME, -12, "taken(13, 6)", "taken(-1, 5)");
        // a sixth told MAN by a missing SHEET, and by one that isn't good
        WalkTheDike x = Worlds.full();
        x.sheet(3, -1, 0);
        is(x, "man(3, 0, 10, 3)", -11);
        is(x, "man(3, 0, 10, 0)", BAD);
        x.cell(2, 11, 8);
        is(x, "man(3, 0, 10, 2)", BAD);
        x.cell(2, 11, 7);
        is(x, "man(3, 0, 10, 2)", FULL);
    }

    @Says(of = 0, value = "(a -1 that is an answer comes behind the refusal of a number):")
    static void minusOne() {
        WalkTheDike x = new WalkTheDike();
        is(x, "ready(0)", -1);
        is(x, "callWhen(0)", -1);
        is(x, "trusts(0, 0)", -1);
        is(x, "bestLook(0)", -1);
        refused(NEW, BAD, "ready(2)", "ready(-1)", "callWhen(-1)", "callWhen(10000)", "trusts(-1, 0)", "trusts(8, 0)",
            "trusts(0, -1)", "trusts(0, 10000)");
        refused(NEW, NO, "bestLook(2)", "bestLook(-1)");
        refused(NEW, -5, "meet(0, 1)", "check(0)");
        WalkTheDike y = eight();
        y.night(3, 0);
        is(y, "trusts(0, 0)", -1);
        each(y, BAD, "trusts(8, 0)", "trusts(0, 10000)");
        Due.row(y, 0, 0, 0, 0, 0, 0, 0, 0, 0);
        is(y, "judge(0, 1)", -1);
        each(y, BAD, "judge(0, 0)", "judge(0, 4)", "judge(4, 1)");
    }

    @Says(of = 0, value = "NONE there is no such thing; BAD a number is not as told; STATE as told; FULL.")
    static void names() {
        Due.is("NONE", WalkTheDike.NONE, -1);
        Due.is("BAD", WalkTheDike.BAD, -2);
        Due.is("STATE", WalkTheDike.STATE, -3);
        Due.is("FULL", WalkTheDike.FULL, -4);
        Due.is("NO", WalkTheDike.NO, -4611686018427387904L);
        refused(NEW, -1, "lamp(0, 0)", "pace(0, 1)", "night(5, 0)", "water(12, 0)");
        refused(NEW, -2, "water(0, 10)", "count(10)");
        refused(NEW, -3, "back()");
        refused(ALL, -4, "piece(0, 0)");
        refused(NEW, -4611686018427387904L, "harm(0, 0)");
    }

    @Says(of = 0, value = "The host's: -11 nothing there, -12 a place outside, -13 of another sort or KIND, -14 a size below 0.")
    static void hosts() {
        refused(SOME, -11, "cell(3, 0, 0)", "taken(3, 6)", "taken(10, 0)");
        refused(SOME, -12, "cell(0, 3, 0)", "taken(13, 0)");
        refused(SOME, -13, "copy(0, 0, 1, 0, 1)", "taken(0, 0)", "taken(9, 1)");
        refused(SOME, -14, "sheet(0, 0, -1)");
    }

    @Says(of = 0, value = "They change nothing.")
    static void refusalsChangeNothing() {
        refused(ALL, FULL, "piece(1, 99)", "feed(-1, 8)", "text()", "man(1, 7, 10, 0)");
        refused(ALL, BAD, "piece(2, 50)", "night(0, 13)", "water(0, 10)", "force(6)", "pace(0, 4)", "lamp(0, 2)", "call(12)",
            "learn(0)", "sheet(0, 0, 41)", "cell(4, 0, 5)", "copy(4, 0, 0, 0, 1)", "piecesBy(0, 0, 0, 9)");
        refused(ALL, NONE, "night(5, 1)", "water(12, 1)", "pace(5, 1)", "lamp(8, 1)");
        refused(ALL, -5, "set(8, 1, 1)");
        refused(ALL, -7, "set(0, 0, 2)", "set(0, 1, 100)", "set(0, 2, 4)", "set(0, 3, 1)");
        refused(ALL, -12, "cell(0, 3, 5)", "copy(2, 0, 3, 29, 12)", "piecesBy(0, 0, -1, 1)");
        refused(ALL, -13, "copy(1, 0, 3, 0, 1)", "piecesBy(0, 1, 0, 1)");
        refused(ALL, -14, "sheet(3, 1, -1)");
        refused(SOME, -11, "learn(3)", "cell(3, 0, 5)", "copy(3, 0, 0, 0, 1)", "piecesBy(3, 0, 0, 1)", "man(3, 0, 10, 3)");
        refused(SOME, BAD, "man(3, 0, 10, 0)", "man(0, 3, 10, 0)", "man(0, 0, 16, 0)");
        refused(SOME, STATE, "back()");
    }

    private static String toldOf(WalkTheDike x) {
        StringBuilder told = new StringBuilder();
        for (String call : new String[] {"run(0)", "run(1)", "run(2)", "drawn(3, 0)", "drawn(4, 0)", "drawn(5, 0)", "asks(0, 0, 2, 1, 0)",
            "asks(2, 7, 2, 3, 0)", "bestLook(1)", "worst()", "village(2)", "looked(6)", "where(0, 3)"}) {
            told.append(Call.on(x, call)).append(' ');
        }
        return told.toString();
    }

    @Says(of = 0, value = "What is asked changes nothing, but where it is told.")
    static void askedChangesNothing() {
        for (String call : new String[] {"count(9)", "asks(2, 7, 11, 12, 3)", "manTold(1, 16)", "where(2, 11)", "looked(11)",
            "often(7, 1)", "meet(0, 4)", "run(0)", "run(1)", "run(2)", "harm(7, 0)", "state(7, 11, 6)", "worst()", "more(0, 0)",
            "more(7, 11)", "bestLook(0)", "bestLook(1)", "ready(0)", "ready(1)", "rounds(0, 0)", "rounds(4, 1)", "quick(0)",
            "quick(3)", "next(1, 1, 0)", "next(4, 11, 1)", "spare()", "judge(2, 1)", "sure(12)", "fewest(0)", "check(3)",
            "village(-1)", "village(0)", "village(11)", "callWhen(0)", "callWhen(9999)", "trusts(0, 0)", "trusts(11, 9999)",
            "drawn(0, 0)", "drawn(99999, 2)", "taken(7, 6)", "taken(12, 2)"}) {
            unchanged(ALL, call);
            // nor what it answers itself, when it is asked again
            WalkTheDike x = Worlds.full();
            long answer = Call.on(x, call);
            Due.is(call + " asked again", Call.on(x, call), answer);
            Due.is(call + " is refused", answer == NO || answer < -1 && !call.startsWith("more") ? 1 : 0, 0);
        }
        // what has been asked is asked anew behind a change
        for (String change : new String[] {"set(0, 0, 1)", "set(7, 1, 3)", "set(7, 2, 0)", "night(0, 7)", "night(1, 2)", "night(2, 0)",
            "night(3, 8)", "night(4, 0)", "water(2, 9)", "force(2)", "force(0)", "pace(0, 1)", "pace(1, 3)", "lamp(5, 0)", "lamp(7, 1)",
            "call(-1)", "call(0)", "image()", "back()", "learn(1)"}) {
            WalkTheDike asked = Worlds.full();
            WalkTheDike not = Worlds.full();
            asked.force(1);
            not.force(1);
            String was = toldOf(asked);
            if (change.startsWith("learn")) {
                Due.row(asked, 1, 0, 0, 9, 0, 0, 0, 0, 0);
                Due.row(not, 1, 0, 0, 9, 0, 0, 0, 0, 0);
            }
            Due.is(change, Call.on(asked, change), Call.on(not, change));
            String is = toldOf(not);
            Due.is(change + " behind other questions; alike", toldOf(asked).equals(is) ? 1 : 0, 1);
            Due.is(change + " matters", is.equals(was) ? 0 : 1, change.equals("image()") ? 0 : 1);
        }
        WalkTheDike y = Worlds.full();
        is(y, "places(0)", BAD);
        Due.row(y, 0, 0, 9, 0, 0, 0, 0, 0, 0);
        long harm = y.run(0);
        is(y, "places(0)", 2);
        Due.is("ALL HARM behind places()", y.run(0), harm);
    }
}
