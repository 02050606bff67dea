/** Promises 18 to 21: what a night harms, reckoned by hand. */
public final class NightTest {
    private static final long NO = WalkTheDike.NO;

    public static void main(String[] args) {
        unseen();
        underALamp();
        since();
        looksInTheirOrder();
        cut();
        severalPieces();
        refused();
        Due.end();
    }

    private static void run(String name, WalkTheDike x, long harm, long broken, long found) {
        Due.is(name + ": run(0)", x.run(0), harm);
        Due.is(name + ": run(1)", x.run(1), broken);
        Due.is(name + ": run(2)", x.run(2), found);
    }

    private static void states(String name, WalkTheDike x, int p, int h, long... parts) {
        for (int step = 0; step < parts.length; step++) {
            Due.is(name + ": state(" + p + ", " + h + ", " + step + ")", x.state(p, h, step), parts[step]);
        }
    }

    private static void unseen() {
        WalkTheDike x = Due.short3("risk 100;seen 50;harm step;", 0);
        run("unseen", x, 300000000, 100000000, 0);
        states("unseen", x, 0, 0, 900000000, 100000000, 0, 0);
        states("unseen", x, 0, 1, 810000000, 90000000, 100000000, 0);
        states("unseen", x, 0, 2, 729000000, 81000000, 90000000, 100000000);
        x.set(0, 2, 1);
        run("a sack", x, 200000000, 100000000, 0);
        x.set(0, 2, 3);
        run("three sacks", x, 0, 100000000, 0);
        x.set(0, 2, 0);
        x.night(1, 2);
        run("breaks at 2", x, 2 * 190000000L, 190000000, 0);
        x.night(0, 2);
        run("two hours", x, 2 * 100000000L, 100000000, 0);
        x.night(0, 1);
        run("one hour", x, 0, 0, 0);
    }

    private static void underALamp() {
        WalkTheDike x = Due.short3("risk 100;seen 50;harm step;", 0);
        x.lamp(0, 1);
        run("a lamp", x, 316375000, 25000000, 192625000);
        states("a lamp", x, 0, 0, 950000000, 50000000, 0, 0);
        states("a lamp", x, 0, 1, 927500000, 47500000, 25000000, 0);
        states("a lamp", x, 0, 2, 834750000 + 46375000 + 23750000, 46375000, 23750000, 25000000);
        // of those that have had none: those found in an hour may have one again in the next
        Due.is("harm(0, 2)", x.harm(0, 2), 192625000);
    }

    private static void since() {
        WalkTheDike x = Due.short3("risk step*100;seen 100;harm 1;", 0);
        states("since grows", x, 0, 2, 900000000L - 180000000 - 720000000 / 5, 720000000 / 5, 180000000, 100000000);
        x.man(0, 0, 10, 0);
        run("since stays 1", x, 300000000, 0, 300000000);
        WalkTheDike y = Due.short3("risk step*100;seen 0;harm 1;", 0, 0);
        y.man(1, 1, 10, 0);
        // of PIECE 1: SINCE 1 2 1
        states("looked at in hour 1", y, 1, 2, 648000000, 72000000, 180000000, 100000000);
    }

    private static void looksInTheirOrder() {
        // SEEN 50 of men by pace 2, 25 of pace 1, 100 of a lamp and the village; HARM by step and no hole elsewhere
        WalkTheDike x = Due.short3("risk 200;seen (pace=0)*100+pace*25;harm 1;", 0);
        x.night(0, 1);
        x.man(0, 0, 20, 0);
        x.man(0, 0, 10, 0);
        states("two men", x, 0, 0, 800000000 + 125000000, 75000000);
        x.man(0, 0, 30, 0);
        states("three men", x, 0, 0, 1000000000 - 18750000, 18750000);
        x.call(0);
        x.night(4, 0);
        states("and the village", x, 0, 0, 1000000000, 0);
        run("all are found once", x, 200000000, 0, 200000000);
        x.call(-1);
        x.lamp(0, 1);
        states("and a lamp", x, 0, 0, 1000000000, 0);
        WalkTheDike z = Due.short3("risk 200;seen 50;harm 1;", 0);
        z.night(0, 1);
        z.night(4, 0);
        z.lamp(0, 1);
        z.call(0);
        states("a lamp and the village", z, 0, 0, 950000000, 50000000);
        z.man(0, 0, 10, 0);
        states("and a man", z, 0, 0, 975000000, 25000000);
        // the cuts tell the order: 7 parts of 1000 seen by 33 of 100 and 77 of 100
        WalkTheDike y = Due.short3("risk 1;seen pace*33;harm 1;", 0);
        y.man(0, 0, 10, 0);
        y.man(0, 0, 20, 0);
        states("cut", y, 0, 0, 999000000 + 330000 + 442200, 227800);
    }

    private static void cut() {
        WalkTheDike x = Due.short3("risk 7;seen 33;harm worth;", 99);
        x.night(0, 4);
        x.night(1, 6);
        states("cut", x, 0, 3, 979146657 - 6854026, 6854026, 6902343, 6951000, 7000000, 0, 0);
        x.lamp(0, 1);
        long none = 1000000000;
        long one = 0;
        long two = 0;
        long found = 0;
        for (int h = 0; h < 2; h++) {
            two = one;
            one = none * 7 / 1000;
            none -= one;
            long seen = one * 33 / 100;
            long other = two * 33 / 100;
            one -= seen;
            two -= other;
            none += seen + other;
            found += seen + other;
        }
        x.night(0, 2);
        states("cut", x, 0, 1, none, one, two, 0);
        run("cut", x, 99 * found, 0, found);
    }

    private static void severalPieces() {
        WalkTheDike x = Due.short3("risk old*100+worth;seen 0;harm worth;", 10, 20, 20);
        x.set(0, 0, 1);
        Due.is("harm(0, 1)", x.harm(0, 1), 110000000);
        Due.is("harm(1, 1)", x.harm(1, 1), 20000000);
        Due.is("harm(0, 0)", x.harm(0, 0), 1100000000);
        Due.is("harm(1, 0)", x.harm(1, 0), 400000000);
        run("all", x, 1900000000, 150000000, 0);
        Due.is("worst", x.worst(), 0);
        x.set(0, 0, 0);
        Due.is("worst, the first", x.worst(), 1);
        x.set(0, 1, 21);
        Due.is("worst", x.worst(), 0);
        for (int p = 0; p < 3; p++) {
            x.set(p, 1, 0);
        }
        Due.is("of none any", x.worst(), -1);
        WalkTheDike y = Due.short3("risk 100;seen 100;harm 1;", 0, 0);
        Due.is("by none", y.worst(), 0);
        y.lamp(0, 1);
        Due.is("by a lamp at the first", y.worst(), 1);
        Due.is("no pieces", new WalkTheDike().worst(), -1);
    }

    private static void refused() {
        WalkTheDike x = Due.short3("risk 100;seen 50;harm step;", 0);
        Due.is("run(3)", x.run(3), NO);
        Due.is("run(-1)", x.run(-1), NO);
        Due.is("harm(1, 0)", x.harm(1, 0), NO);
        Due.is("harm(-1, 0)", x.harm(-1, 0), NO);
        Due.is("harm(0, 3)", x.harm(0, 3), NO);
        Due.is("harm(0, -1)", x.harm(0, -1), NO);
        Due.is("state(1, 0, 0)", x.state(1, 0, 0), NO);
        Due.is("state(-1, 0, 0)", x.state(-1, 0, 0), NO);
        Due.is("state(0, 3, 0)", x.state(0, 3, 0), NO);
        Due.is("state(0, -1, 0)", x.state(0, -1, 0), NO);
        Due.is("state(0, 2, 3)", x.state(0, 2, 3), 100000000);
        Due.is("state(0, 2, 4)", x.state(0, 2, 4), NO);
        Due.is("state(0, 2, -1)", x.state(0, 2, -1), NO);
        Due.is("nothing without pieces", new WalkTheDike().run(2), 0);
    }
}
