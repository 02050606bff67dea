/** Promises 30 to 33: told ways, rows of hours, sleepers that are seen. */
public final class ToldTest {
    public static void main(String[] args) {
        judge();
        sure();
        fewest();
        check();
        Due.end();
    }

    private static void judge() {
        WalkTheDike x = Due.withPieces(0, 0, 0, 0, 0);
        x.night(0, 5);
        Due.is("judge(4, 1)", x.judge(4, 1), WalkTheDike.BAD);
        Due.is("judge(-1, 1)", x.judge(-1, 1), WalkTheDike.BAD);
        Due.is("judge(0, 0)", x.judge(0, 0), WalkTheDike.BAD);
        Due.is("judge(0, 4)", x.judge(0, 4), WalkTheDike.BAD);
        Due.is("judge(0, 1)", x.judge(0, 1), -11);
        Due.row(x, 0, 0, 1, 2, 3);
        Due.is("too short", x.judge(0, 1), WalkTheDike.BAD);
        Due.row(x, 0, 0, 1, 2, 3, 4, 4);
        Due.is("too long", x.judge(0, 1), WalkTheDike.BAD);
        Due.row(x, 0, 0, 1, 2, 3, 4);
        Due.is("a way", x.judge(0, 1), -1);
        Due.row(x, 0, 4, 4, 3, 1, 0);
        Due.is("too far", x.judge(0, 1), 3);
        Due.is("not too far", x.judge(0, 2), -1);
        Due.row(x, 0, 4, 1, 4, 0, 4);
        Due.is("too far", x.judge(0, 3), 3);
        Due.is("too far", x.judge(0, 2), 1);
        Due.row(x, 0, 5, 0, 0, 0, 0);
        Due.is("no piece", x.judge(0, 3), 0);
        Due.row(x, 0, 4, 5, 0, 0, 0);
        Due.is("no piece", x.judge(0, 3), 1);
        Due.row(x, 0, 0, 0, 0, 0, -1);
        Due.is("no piece", x.judge(0, 3), 4);
        Due.row(x, 0, 0, 2147483647, 0, -2147483648, 0);
        Due.is("no piece", x.judge(0, 3), 1);
        x.piece(0, 0);
        Due.row(x, 0, 5, 5, 5, 5, 5);
        Due.is("a piece that has come", x.judge(0, 1), -1);
        x.sheet(0, 0, 5);
        Due.is("bytes, too", x.judge(0, 1), -1);
    }

    private static void sure() {
        WalkTheDike x = Due.withPieces(0, 0, 0);
        Due.is("sure(-1)", x.sure(-1), WalkTheDike.BAD);
        Due.is("sure(13)", x.sure(13), WalkTheDike.BAD);
        Due.is("never looked at", x.sure(7), 0);
        Due.is("never looked at", x.sure(8), 1);
        Due.is("never looked at", x.sure(12), 1);
        x.man(1, 2, 10, 0);
        Due.is("three hours", x.sure(2), 0);
        Due.is("three hours", x.sure(3), 1);
        for (int p = 0; p < 3; p++) {
            Due.is("not sure(0)", x.sure(0), 0);
            x.lamp(p, 1);
        }
        Due.is("sure(0)", x.sure(0), 1);
        Due.is("no pieces", new WalkTheDike().sure(0), 1);
    }

    private static void fewest() {
        // L of n 0 .. 12: 1 2 2 3 3 4 4 5 5 6 6 7 7
        int[] lengths = {1, 2, 2, 3, 3, 4, 4, 5, 5, 6, 6, 7, 7};
        WalkTheDike x = new WalkTheDike();
        for (int pieces = 0; pieces <= 8; pieces++) {
            for (int n = 0; n <= 12; n++) {
                int want = 0;
                for (int left = pieces; left > 0; left -= lengths[n]) {
                    want++;
                }
                Due.is("fewest(" + n + ") of " + pieces, x.fewest(n), want);
            }
            Due.is("fewest(13)", x.fewest(13), WalkTheDike.BAD);
            Due.is("fewest(-1)", x.fewest(-1), WalkTheDike.BAD);
            x.piece(0, 0);
        }
    }

    private static void check() {
        WalkTheDike x = Due.withPieces(0, 0, 0, 0);
        x.man(5, 3, 10, 0);
        // 0 0 1 1 2 2 3 3, asleep in 1 3 5 7
        Due.is("alone", x.check(0), -1);
        x.man(0, 22, 10, 0);
        Due.is("by a round", x.check(0), 5);
        Due.is("who always looks", x.check(1), -1);
        x.man(5, 3, 10, 0);
        Due.is("another sleeper, but he sleeps, too", x.check(0), 5);
        x.man(5, 3, 11, 0);
        // 0 1 1 2 3 3 2 1, asleep in 2 5
        Due.is("a sleeper who looks", x.check(0), 5);
        x.man(0, 0, 10, 0);
        Due.is("in hour 1", x.check(0), 1);
        Due.is("in hour 2", x.check(3), 2);
        WalkTheDike y = Due.withPieces(0, 0);
        y.man(0, 0, 10, 0);
        y.man(5, 0, 10, 0);
        Due.is("by the first man", y.check(1), 1);
        Due.is("check(5)", x.check(5), -5);
        Due.is("check(-1)", x.check(-1), -5);
        x.night(0, 1);
        Due.is("a short night", x.check(0), -1);
    }
}
