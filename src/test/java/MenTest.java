/** Promises 11 to 17: MEN, where they are, what they look at. */
public final class MenTest {
    public static void main(String[] args) {
        man();
        pace();
        manTold();
        rounds();
        evens();
        risks();
        told();
        sleepers();
        whereRefused();
        looked();
        often();
        meet();
        Due.end();
    }

    private static void ways(String name, WalkTheDike x, int m, int... want) {
        for (int h = 0; h < want.length; h++) {
            Due.is(name + ": where(" + m + ", " + h + ")", x.where(m, h), want[h]);
        }
    }

    private static WalkTheDike eight() {
        return Due.withPieces(1, 2, 3, 4, 5, 6, 7, 8);
    }

    private static void man() {
        WalkTheDike x = new WalkTheDike();
        Due.is("no piece to stand on", x.man(0, 0, 10, 0), WalkTheDike.BAD);
        x = Due.withPieces(1, 2, 3);
        Due.is("kind -1", x.man(-1, 0, 10, 0), WalkTheDike.BAD);
        Due.is("kind 6", x.man(6, 0, 10, 0), WalkTheDike.BAD);
        Due.is("ends -1", x.man(0, -1, 10, 0), WalkTheDike.BAD);
        Due.is("ends 3", x.man(0, 3, 10, 0), WalkTheDike.BAD);
        Due.is("ends 30", x.man(0, 30, 10, 0), WalkTheDike.BAD);
        Due.is("ends 100", x.man(0, 100, 10, 0), WalkTheDike.BAD);
        Due.is("rest 0", x.man(0, 0, 0, 0), WalkTheDike.BAD);
        Due.is("rest 9", x.man(0, 0, 9, 0), WalkTheDike.BAD);
        Due.is("rest 16", x.man(0, 0, 16, 0), WalkTheDike.BAD);
        Due.is("rest 40", x.man(0, 0, 40, 0), WalkTheDike.BAD);
        Due.is("rest -10", x.man(0, 0, -10, 0), WalkTheDike.BAD);
        Due.is("sheet 4 of a told one", x.man(3, 0, 10, 4), WalkTheDike.BAD);
        Due.is("sheet -1 of a told one", x.man(3, 0, 10, -1), WalkTheDike.BAD);
        Due.is("missing sheet", x.man(3, 0, 10, 1), -11);
        Due.is("rest ahead of the missing sheet", x.man(3, 0, 9, 1), WalkTheDike.BAD);
        Due.row(x, 1, 0, 0, 0, 0, 0, 0, 0, 0, 0, 0, 0);
        Due.is("its size", x.man(3, 0, 10, 1), WalkTheDike.BAD);
        Due.row(x, 1, 0, 0, 0, 0, 0, 0, 0, 0, 0, 0, 0, 0, 0);
        Due.is("its size", x.man(3, 0, 10, 1), WalkTheDike.BAD);
        Due.row(x, 1, 0, 0, 0, 0, 0, 0, 0, 0, 0, 0, 0, 8);
        Due.is("a number", x.man(3, 0, 10, 1), WalkTheDike.BAD);
        Due.row(x, 1, -1, 0, 0, 0, 0, 0, 0, 0, 0, 0, 0, 0);
        Due.is("a number", x.man(3, 0, 10, 1), WalkTheDike.BAD);
        Due.is("no man came", x.count(6), 0);
        Due.row(x, 1, 7, 6, 5, 4, 3, 2, 1, 0, 1, 2, 3, 4);
        Due.is("a told one", x.man(3, 12, 35, 1), 0);
        Due.is("others need no sheet", x.man(0, 22, 10, -9), 1);
        Due.is("nor a good one", x.man(1, 21, 20, 2), 2);
        x.man(2, 0, 10, 0);
        Due.is("a fifth", x.man(5, 0, 15, 9), 4);
        Due.is("a sixth", x.man(4, 0, 10, 0), WalkTheDike.FULL);
        Due.is("a sixth, BAD", x.man(4, 0, 9, 0), WalkTheDike.BAD);
        Due.is("a sixth, -11", x.man(3, 0, 10, 0), -11);
        Due.is("a sixth, told", x.man(3, 0, 10, 1), WalkTheDike.FULL);
        Due.is("count(6)", x.count(6), 5);
    }

    private static void pace() {
        WalkTheDike x = eight();
        x.man(1, 7, 10, 0);
        x.man(1, 7, 30, 0);
        Due.is("pace(2, 1)", x.pace(2, 1), WalkTheDike.NONE);
        Due.is("pace(-1, 0)", x.pace(-1, 0), WalkTheDike.NONE);
        Due.is("pace(0, 0)", x.pace(0, 0), WalkTheDike.BAD);
        Due.is("pace(0, 4)", x.pace(0, 4), WalkTheDike.BAD);
        Due.is("pace(0, 2)", x.pace(0, 2), 1);
        Due.is("pace(1, 1)", x.pace(1, 1), 3);
        Due.is("pace(0, 3)", x.pace(0, 3), 2);
        ways("by the new pace", x, 0, 0, 3, 6, 7, 4, 1, 0, 3);
        ways("by the new pace", x, 1, 0, 1, 2, 3, 4, 5, 6, 7);
    }

    private static void manTold() {
        WalkTheDike x = Due.withPieces(1, 2, 3);
        Due.row(x, 3, 7, 6, 5, 4, 3, 2, 1, 0, 1, 2, 3, 4);
        x.man(3, 12, 35, 3);
        x.man(5, 20, 24, 3);
        Due.row(x, 3, 0, 0, 0);
        int[] first = {3, 1, 2, 3, 5, 7, 6, 5, 4, 3, 2, 1, 0, 1, 2, 3, 4};
        int[] second = {5, 2, 0, 2, 4, 0, 0, 0, 0, 0, 0, 0, 0, 0, 0, 0, 0};
        for (int what = 0; what < 17; what++) {
            Due.is("manTold(0, " + what + ")", x.manTold(0, what), first[what]);
            Due.is("manTold(1, " + what + ")", x.manTold(1, what), second[what]);
        }
        Due.is("manTold(0, 17)", x.manTold(0, 17), -7);
        Due.is("manTold(0, -1)", x.manTold(0, -1), -7);
        Due.is("manTold(2, 0)", x.manTold(2, 0), -5);
        Due.is("manTold(-1, 99)", x.manTold(-1, 99), -5);
    }

    private static void rounds() {
        WalkTheDike x = eight();
        x.man(0, 52, 30, 0);
        ways("a round stays", x, 0, 5, 5, 5, 5, 5, 5, 5, 5);
    }

    private static void evens() {
        WalkTheDike x = eight();
        x.night(0, 12);
        x.man(1, 3, 10, 0);
        ways("to and fro", x, 0, 0, 1, 2, 3, 2, 1, 0, 1, 2, 3, 2, 1);
        x.man(1, 61, 30, 0);
        ways("an end below the post", x, 1, 6, 3, 1, 4, 6, 3, 1, 4, 6, 3, 1, 4);
        x.man(4, 3, 20, 0);
        ways("a pair begins at the end", x, 2, 3, 1, 0, 2, 3, 1, 0, 2, 3, 1, 0, 2);
        x.man(1, 44, 20, 0);
        ways("post is end", x, 3, 4, 4, 4, 4, 4, 4);
        x.man(4, 55, 20, 0);
        ways("post is end", x, 4, 5, 5, 5, 5, 5, 5);
    }

    private static void risks() {
        WalkTheDike x = Due.withPieces(0, 0, 0);
        Due.law(x, "risk 10;seen 0;harm 0;");
        x.man(2, 10, 10, 0);
        // SINCE alone: hour 1: 2 1 2, so the least; hour 2: 1 2 3, from 0 to 1; then 2 and so on
        ways("by since", x, 0, 1, 0, 1, 2, 1, 0, 1, 2);
        WalkTheDike y = Due.withPieces(0, 0, 0, 0, 0);
        Due.law(y, "risk worth;seen 0;harm 0;");
        int[] worths = {2, 1, 1, 1, 3};
        for (int p = 0; p < 5; p++) {
            y.set(p, 1, worths[p]);
        }
        y.man(2, 20, 10, 0);
        // dreads of hour 1: 4 2 1 2 6: of 1 and 3 the least; hour 2: 6 1 2 3 9: 0;
        // hour 3: 2 2 3 4 12: he stays; hour 4: 2 3 4 5 15: 1
        ways("he stays where it is no less", y, 0, 2, 1, 0, 0, 1);
        WalkTheDike z = Due.withPieces(0, 0, 0, 0, 0);
        Due.law(z, "risk water*worth;seen 0;harm 0;");
        z.set(4, 1, 9);
        z.set(0, 1, 1);
        z.water(1, 0);
        z.water(2, 1);
        z.man(2, 20, 20, 0);
        // no water in hour 1: none is more than where he is
        ways("by the hour in which he comes", z, 0, 2, 2, 4);
        z.pace(0, 1);
        ways("no farther than his pace", z, 0, 2, 2, 2);
        // another's look counts, a lamp's, the village's
        WalkTheDike w = Due.withPieces(0, 0, 0);
        Due.law(w, "risk 10;seen 0;harm 0;");
        w.man(2, 10, 10, 0);
        w.man(0, 0, 10, 0);
        ways("not where another looks", w, 0, 1, 2, 1, 2);
        w.lamp(2, 1);
        ways("nor where a lamp is", w, 0, 1, 1, 1, 1);
        w.lamp(2, 0);
        w.night(3, 3);
        w.night(4, 1);
        w.call(0);
        ways("nor where the village is", w, 0, 1, 2, 2, 2);
    }

    private static void told() {
        WalkTheDike x = Due.withPieces(0, 0, 0, 0, 0);
        Due.row(x, 0, 4, 4, 4, 7, 0, 5, 3, 3, 3, 3, 3, 3);
        x.man(3, 20, 10, 0);
        ways("told", x, 0, 2, 3, 4, 3, 2, 2, 3, 3);
        x.pace(0, 3);
        ways("told", x, 0, 2, 4, 4, 2, 0, 2, 3, 3);
        x.piece(0, 0);
        ways("a piece that has come", x, 0, 2, 4, 4, 2, 0, 3, 3, 3);
    }

    private static void sleepers() {
        WalkTheDike x = eight();
        x.night(0, 12);
        x.man(5, 7, 10, 0);
        x.man(5, 7, 12, 0);
        x.man(5, 2, 15, 0);
        x.man(5, 20, 30, 0);
        ways("every other hour", x, 0, 0, 0, 1, 1, 2, 2, 3, 3, 4, 4, 5, 5);
        ways("the last of four", x, 1, 0, 1, 2, 2, 3, 4, 5, 5, 6, 7, 6, 6);
        ways("the last of seven", x, 2, 0, 1, 2, 1, 0, 1, 1, 2, 1, 0, 1, 2);
        ways("as fast as that", x, 3, 2, 2, 0, 0, 2, 2, 0, 0, 2, 2, 0, 0);
        Due.is("looked(0)", x.looked(0), 5);
        Due.is("looked(1)", x.looked(1), 2);
        Due.is("looked(3)", x.looked(3), 2);
        Due.is("looked(6)", x.looked(6), 1 << 5 | 1 << 3 | 1);
        Due.is("looked(7)", x.looked(7), 1 << 2);
    }

    private static void whereRefused() {
        WalkTheDike x = Due.withPieces(0);
        x.man(0, 0, 10, 0);
        Due.is("where(1, 0)", x.where(1, 0), -5);
        Due.is("where(-1, 99)", x.where(-1, 99), -5);
        Due.is("where(0, -1)", x.where(0, -1), -7);
        Due.is("where(0, 7)", x.where(0, 7), 0);
        Due.is("where(0, 8)", x.where(0, 8), -7);
        x.night(0, 3);
        Due.is("where(0, 3)", x.where(0, 3), -7);
        x.night(0, 12);
        Due.is("where(0, 11)", x.where(0, 11), 0);
        Due.is("where(0, 12)", x.where(0, 12), -7);
    }

    private static void looked() {
        WalkTheDike x = Due.withPieces(0, 0, 0, 0, 0, 0);
        Due.is("looked(-1)", x.looked(-1), WalkTheDike.BAD);
        Due.is("looked(8)", x.looked(8), WalkTheDike.BAD);
        Due.is("none", x.looked(7), 0);
        x.lamp(5, 1);
        Due.is("a lamp", x.looked(0), 32);
        x.man(1, 10, 10, 0);
        Due.is("a man", x.looked(0), 34);
        Due.is("a man", x.looked(1), 33);
        x.call(3);
        Due.is("the village does not come yet", x.looked(4), 34);
        Due.is("the village comes", x.looked(5), 47);
        Due.is("the village stays", x.looked(7), 47);
        x.night(3, 8);
        Due.is("pieces that are there alone", x.looked(5), 63);
        x.night(3, 0);
        Due.is("no trust", x.looked(5), 33);
        x.night(3, 1);
        x.night(4, 0);
        Due.is("it comes at once", x.looked(3), 33);
        Due.is("not ahead of it", x.looked(2), 34);
        x.night(4, 12);
        Due.is("it comes too late", x.looked(7), 33);
        x.call(-1);
        x.night(4, 0);
        Due.is("not called", x.looked(4), 34);
        x.lamp(5, 0);
        Due.is("no lamp", x.looked(4), 2);
    }

    private static void often() {
        WalkTheDike x = Due.withPieces(0, 0, 0, 0);
        x.man(1, 2, 10, 0);
        // 0 1 2 1 0 1 2 1
        int[] hours = {2, 4, 2, 0};
        int[] rows = {3, 1, 3, 8};
        for (int p = 0; p < 4; p++) {
            Due.is("often(" + p + ", 0)", x.often(p, 0), hours[p]);
            Due.is("often(" + p + ", 1)", x.often(p, 1), rows[p]);
        }
        x.lamp(3, 1);
        Due.is("always", x.often(3, 0), 8);
        Due.is("always", x.often(3, 1), 0);
        x.man(0, 0, 10, 0);
        Due.is("two men are one hour", x.often(0, 0), 8);
        Due.is("often(4, 0)", x.often(4, 0), -5);
        Due.is("often(-1, 7)", x.often(-1, 7), -5);
        Due.is("often(0, 2)", x.often(0, 2), -7);
        Due.is("often(0, -1)", x.often(0, -1), -7);
    }

    private static void meet() {
        WalkTheDike x = eight();
        x.man(1, 7, 10, 0);
        x.man(4, 7, 10, 0);
        x.man(4, 6, 10, 0);
        x.man(0, 77, 10, 0);
        x.man(5, 7, 10, 0);
        Due.is("they pass", x.meet(0, 1), -1);
        Due.is("they meet", x.meet(0, 2), 3);
        Due.is("they meet", x.meet(2, 0), 3);
        Due.is("at the end of the night", x.meet(0, 3), 7);
        Due.is("at once", x.meet(0, 4), 0);
        Due.is("at once", x.meet(1, 3), 0);
        x.night(0, 7);
        Due.is("the night is shorter", x.meet(0, 3), -1);
        Due.is("alike", x.meet(0, 0), -5);
        Due.is("none such", x.meet(0, 5), -5);
        Due.is("none such", x.meet(5, 0), -5);
        Due.is("none such", x.meet(-1, 0), -5);
    }
}
