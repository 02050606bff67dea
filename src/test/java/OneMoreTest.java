/** Promises 22 to 29: one more look, lamp, sack; the best rounds and paces. */
public final class OneMoreTest {
    private static final long NO = WalkTheDike.NO;

    public static void main(String[] args) {
        more();
        bestLook();
        lamp();
        ready();
        rounds();
        quick();
        next();
        spare();
        Due.end();
    }

    private static void more() {
        WalkTheDike x = Due.short3("risk 100;seen 50;harm step;", 0);
        Due.is("more(0, 0)", x.more(0, 0), 100000000);
        Due.is("more(0, 1)", x.more(0, 1), 5000000);
        Due.is("more(0, 2)", x.more(0, 2), -130500000);
        Due.is("what is asked changes nothing", x.run(0), 300000000);
        Due.is("what is asked changes nothing", x.looked(0), 0);
        Due.is("more(0, 3)", x.more(0, 3), NO);
        Due.is("more(0, -1)", x.more(0, -1), NO);
        Due.is("more(1, 0)", x.more(1, 0), NO);
        Due.is("more(-1, 0)", x.more(-1, 0), NO);
        // by PACE 1, behind all others
        WalkTheDike y = Due.short3("risk 100;seen pace*50;harm step=3;", 0);
        Due.is("by pace 1", y.more(0, 0), 50000000);
        WalkTheDike z = Due.short3("risk 1;seen 33+(pace=1)*44;harm 1;", 0);
        z.night(0, 1);
        z.lamp(0, 1);
        // 1000000 less 330000; 77 of 100 of 670000
        Due.is("behind a lamp", z.more(0, 0), -515900);
        // it is LOOKED AT: SINCE is 1 in the next hour, and he who walks by RISK goes elsewhere
        WalkTheDike w = Due.short3("risk (step=2)*100;seen 0;harm step=3;", 0);
        w.night(0, 4);
        Due.is("since 2 in hour 1", w.run(0), 100000000);
        Due.is("looked at in hour 0", w.more(0, 0), 100000000);
        Due.is("looked at in hour 1", w.more(0, 1), 0);
        w.night(0, 3);
        Due.is("no break in hours 0 to 2", w.run(0), 0);
        WalkTheDike v = Due.withPieces(0, 0, 0);
        v.night(0, 2);
        Due.law(v, "risk step*10;seen (pace=2)*100;harm 1;");
        v.man(2, 10, 20, 0);
        // he goes to 0 in hour 1: 10 parts of 1000 in hour 0, and 20 less in hour 1 are found there
        Due.is("he finds", v.run(0), 10000000 + 10000000 + 990000000 / 50);
        Due.is("he goes to 2 instead", v.more(0, 0), 0);
        v.set(2, 0, 1);
        Due.law(v, "risk step*10;seen (pace=2)*100;harm 1-old;");
        Due.is("he goes to 2 instead, where it does not harm", v.more(0, 0), 29800000);
    }

    private static void bestLook() {
        WalkTheDike x = Due.short3("risk 100;seen 50;harm step;", 0);
        Due.is("bestLook(0)", x.bestLook(0), 0);
        Due.is("bestLook(1)", x.bestLook(1), 100000000);
        Due.is("bestLook(2)", x.bestLook(2), NO);
        Due.is("bestLook(-1)", x.bestLook(-1), NO);
        Due.law(x, "risk 100;seen 50;harm 1;");
        Due.is("nowhere", x.bestLook(0), -1);
        Due.is("nowhere", x.bestLook(1), 0);
        WalkTheDike y = Due.short3("risk water*10;seen 100;harm (step=3)*worth;", 0, 5, 7, 7);
        y.night(0, 4);
        y.water(1, 5);
        Due.is("first by hours, then by pieces", y.bestLook(0), 12);
        Due.is("how much", y.bestLook(1), 7 * 50000000L);
        y.set(2, 1, 0);
        Due.is("the next one", y.bestLook(0), 13);
        y.set(3, 1, 0);
        Due.is("the next one", y.bestLook(0), 11);
        Due.is("no pieces", new WalkTheDike().bestLook(0), -1);
        Due.is("what is asked changes nothing", y.run(0), 5 * 50000000L);
        Due.is("how much", y.more(1, 2), 5 * 50000000L);
        for (int h = 0; h < 4; h++) {
            Due.is("what is asked changes nothing", y.looked(h), 0);
        }
    }

    private static void lamp() {
        WalkTheDike x = Due.short3("risk 100;seen 50;harm step;", 0, 0);
        Due.is("lamp(2, 1)", x.lamp(2, 1), WalkTheDike.NONE);
        Due.is("lamp(-1, 9)", x.lamp(-1, 9), WalkTheDike.NONE);
        Due.is("lamp(0, 2)", x.lamp(0, 2), WalkTheDike.BAD);
        Due.is("lamp(0, -1)", x.lamp(0, -1), WalkTheDike.BAD);
        Due.is("lamp(0, 1)", x.lamp(0, 1), 0);
        Due.is("lamp(0, 1)", x.lamp(0, 1), 1);
        Due.is("it looks", x.harm(0, 2), 192625000);
        Due.is("only there", x.harm(1, 2), 0);
        Due.is("lamp(0, 0)", x.lamp(0, 0), 1);
        Due.is("it is gone", x.harm(0, 2), 0);
        Due.is("lamp(0, 0)", x.lamp(0, 0), 0);
    }

    private static void ready() {
        WalkTheDike x = Due.short3("risk 100;seen 50;harm (step=3)*worth+(step<3)*2;", 1, 9, 9);
        Due.is("ready(2)", x.ready(2), WalkTheDike.BAD);
        Due.is("ready(-1)", x.ready(-1), WalkTheDike.BAD);
        Due.is("of like ones the first", x.ready(0), 1);
        x.lamp(1, 1);
        Due.is("where none is yet", x.ready(0), 2);
        x.lamp(2, 1);
        Due.is("a lamp would harm more", x.ready(0), -1);
        x.lamp(1, 0);
        x.lamp(2, 0);
        Due.is("a sack", x.ready(1), 1);
        x.set(1, 2, 3);
        Due.is("three sacks are most", x.ready(1), 2);
        x.set(2, 2, 3);
        Due.is("a sack would harm more", x.ready(1), -1);
        x.set(0, 1, 3);
        Due.is("a sack", x.ready(1), 0);
        x.set(0, 2, 3);
        Due.law(x, "risk 100;seen 50;harm step;");
        Due.is("no sacks beyond", x.ready(1), -1);
        x.set(0, 2, 2);
        Due.is("a third sack", x.ready(1), 0);
        Due.is("no pieces", new WalkTheDike().ready(0), -1);
        Due.is("no pieces", new WalkTheDike().ready(1), -1);
        Due.is("what is asked changes nothing", x.set(0, 2, 2) * 10 + x.lamp(0, 0), 20);
    }

    private static void rounds() {
        WalkTheDike x = Due.short3("risk 100;seen 100;harm (step=3)*worth;", 0, 0, 9, 0);
        x.man(0, 0, 10, 0);
        Due.is("rounds(1, 0)", x.rounds(1, 0), NO);
        Due.is("rounds(-1, 0)", x.rounds(-1, 0), NO);
        Due.is("rounds(0, 2)", x.rounds(0, 2), NO);
        Due.is("rounds(0, -1)", x.rounds(0, -1), NO);
        // what begins in hour 0 is to be seen in hour 0 or 1: of like ones the first by POST
        Due.is("rounds(0, 0)", x.rounds(0, 0), 12);
        Due.is("rounds(0, 1)", x.rounds(0, 1), 0);
        x.pace(0, 2);
        Due.is("by his pace", x.rounds(0, 0), 2);
        x.set(2, 1, 0);
        Due.is("all alike", x.rounds(0, 0), 0);
        x.set(0, 1, 9);
        x.set(2, 1, 9);
        x.pace(0, 1);
        // no one is at 0 and at 2 in the hours 0 and 1
        Due.is("rounds(0, 1)", x.rounds(0, 1), 900000000L);
        Due.is("rounds(0, 0)", x.rounds(0, 0), 0);
        int[] told = {0, 0, 0, 1, 0};
        for (int what = 0; what < told.length; what++) {
            Due.is("what is asked changes nothing", x.manTold(0, what), told[what]);
        }
        // a told one, a sleeper: were he an even one
        x.man(5, 33, 11, 0);
        x.set(0, 1, 0);
        Due.is("a sleeper", x.rounds(1, 0), 12);
        x.set(3, 1, 9);
        Due.is("2 and 3", x.rounds(1, 0), 23);
        Due.is("2 and 3", x.rounds(1, 1), 0);
        // END no less than POST: from 3 to 2 is none
        x.set(2, 1, 0);
        x.night(0, 4);
        x.night(1, 2);
        x.water(0, 9);
        Due.law(x, "risk water;seen 100;harm step=2;");
        x.set(3, 1, 9);
        Due.is("no pieces harmed elsewhere", x.rounds(1, 1) >= 0 ? 1 : 0, 1);
    }

    private static void quick() {
        WalkTheDike x = Due.short3("risk 100;seen pace*10;harm step=3;", 0, 0);
        x.man(0, 0, 20, 0);
        Due.is("quick(1)", x.quick(1), -5);
        Due.is("quick(-1)", x.quick(-1), -5);
        Due.is("the quicker the better", x.quick(0), 3);
        Due.law(x, "risk 100;seen 100-pace*10;harm step=3;");
        Due.is("the slower the better", x.quick(0), 1);
        Due.law(x, "risk 100;seen (pace=2)*10;harm step=3;");
        Due.is("two", x.quick(0), 2);
        Due.law(x, "risk 100;seen 50;harm step=3;");
        Due.is("all alike", x.quick(0), 1);
        Due.is("what is asked changes nothing", x.manTold(0, 3), 2);
    }

    private static void next() {
        WalkTheDike x = Due.withPieces(0, 0, 0, 0, 0);
        x.night(0, 4);
        x.night(1, 2);
        Due.law(x, "risk water*10;seen 100;harm (step=2)*worth;");
        x.water(1, 9);
        x.set(0, 1, 5);
        x.set(4, 1, 9);
        x.man(0, 22, 10, 0);
        Due.is("too far for both", x.next(0, 1, 0), 1);
        Due.is("all harm", x.next(0, 1, 1), 14 * 90000000L);
        x.pace(0, 2);
        Due.is("to the worthier", x.next(0, 1, 0), 4);
        Due.is("all harm", x.next(0, 1, 1), 5 * 90000000L);
        x.set(4, 1, 5);
        Due.is("of like ones the least", x.next(0, 1, 0), 0);
        Due.is("hour 0", x.next(0, 0, 0), NO);
        Due.is("hour 4", x.next(0, 4, 0), NO);
        Due.is("hour -1", x.next(0, -1, 0), NO);
        Due.is("no such man", x.next(1, 1, 0), NO);
        Due.is("no such man", x.next(-1, 1, 0), NO);
        Due.is("what", x.next(0, 1, 2), NO);
        Due.is("what", x.next(0, 1, -1), NO);
        for (int h = 0; h < 4; h++) {
            Due.is("he is where he was", x.where(0, h), 2);
        }
        Due.is("from the hour ahead", x.next(0, 3, 0), 0);
        // an even one goes on from there, as he went
        WalkTheDike y = Due.withPieces(0, 0, 0, 0, 0);
        y.night(0, 4);
        y.night(1, 2);
        Due.law(y, "risk water*10;seen 100;harm (step=2)*worth;");
        y.man(1, 4, 10, 0);
        y.water(2, 9);
        y.set(4, 1, 9);
        // 0 1 2 3: from 1 he may be at 2 in hour 2, not at 4; of like ones the least is 0
        Due.is("too far", y.next(0, 2, 0), 0);
        y.water(3, 9);
        y.set(4, 1, 0);
        y.set(3, 1, 9);
        y.night(0, 5);
        // in hour 3 at 3: from 2 in hour 2 only
        Due.is("on towards the end", y.next(0, 2, 0), 2);
        // at his post in hour 2 he turns, but goes towards the end all the same
        y.set(3, 1, 0);
        y.set(1, 1, 9);
        y.water(2, 0);
        Due.is("not back at his post", y.next(0, 2, 0), 0);
        // at the end in hour 2: back from then on
        WalkTheDike z = Due.withPieces(0, 0, 0, 0);
        z.night(0, 5);
        z.night(1, 2);
        Due.law(z, "risk water*10;seen 100;harm (step=2)*worth;");
        z.man(1, 2, 10, 0);
        z.set(1, 1, 9);
        z.water(3, 9);
        // 0 1 2 1 0; put at 0 in hour 2: then 1; at 1: still towards 2, then 2
        Due.is("not back", z.next(0, 2, 0), 0);
        z.set(1, 1, 0);
        z.set(2, 1, 9);
        Due.is("as he went", z.next(0, 2, 0), 1);
        // beyond his end: he goes back towards it
        z.man(1, 1, 30, 0);
        Due.is("all harm is less by both", z.next(1, 3, 1), 0);
        Due.is("beyond his end", z.next(1, 3, 0), 2);
        // who walks by the risk goes on from there
        WalkTheDike w = Due.withPieces(0, 0, 0, 0);
        w.night(0, 4);
        w.night(1, 2);
        Due.law(w, "risk water*10;seen 100;harm (step=2)*worth;");
        w.man(2, 0, 10, 0);
        w.set(3, 1, 9);
        w.set(2, 1, 3);
        w.water(2, 9);
        // in hour 1 all is like: he stays at 0, in hour 2 he would go to 1; put at 1 he goes to 2
        Due.is("on to where the risk is", w.next(0, 1, 0), 1);
        Due.is("all harm", w.next(0, 1, 1), 9 * 90000000L);
    }

    private static void spare() {
        WalkTheDike x = Due.short3("risk 100;seen 100;harm (step=3)*worth;", 5, 9, 5);
        Due.is("no men", x.spare(), -1);
        x.man(0, 0, 10, 0);
        x.man(0, 11, 10, 0);
        x.man(0, 22, 10, 0);
        Due.is("of like ones the first", x.spare(), 0);
        x.set(0, 1, 6);
        Due.is("the least", x.spare(), 2);
        x.man(0, 11, 10, 0);
        Due.is("two at one place", x.spare(), 1);
        for (int h = 0; h < 3; h++) {
            Due.is("what is asked changes nothing", x.looked(h), 7);
        }
        Due.is("what is asked changes nothing", x.run(0), 0);
        // even if it harms more without him
        WalkTheDike y = Due.short3("risk 100;seen 100;harm (step=3)*worth;", 5);
        y.man(0, 0, 10, 0);
        Due.is("the only one", y.spare(), 0);
    }
}
