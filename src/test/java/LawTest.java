/** Promises 7 to 10: THE TAPE, TEXTS and THE LAW. */
public final class LawTest {
    public static void main(String[] args) {
        feed();
        text();
        faults();
        depth();
        values();
        force();
        asks();
        Due.end();
    }

    private static void feed() {
        WalkTheDike x = new WalkTheDike();
        Due.is("feed(0, 0)", x.feed(0, 0), WalkTheDike.BAD);
        Due.is("feed(0, 9)", x.feed(0, 9), WalkTheDike.BAD);
        Due.is("feed(0, -1)", x.feed(0, -1), WalkTheDike.BAD);
        Due.is("feed(0, 1)", x.feed(0, 1), 1);
        for (int i = 0; i < 19; i++) {
            Due.is("feed(-1, 8)", x.feed(-1, 8), 9 + 8 * i);
        }
        Due.is("153 and 8", x.feed(0, 8), WalkTheDike.FULL);
        Due.is("153 and 9", x.feed(0, 9), WalkTheDike.BAD);
        Due.is("count(9)", x.count(9), 153);
        Due.is("153 and 7", x.feed(0, 7), 160);
        Due.is("160 and 1", x.feed(0, 1), WalkTheDike.FULL);
        Due.is("the byte 0 begins none", x.text(), -100);
        Due.is("THE TAPE is empty", x.count(9), 0);
        // the highest of the n lowest comes first; what stands above them is left
        x.feed(0x5a72697L, 2);
        x.feed(0x6b2037L, 3);
        x.feed(0x3b7365656e203100L >> 8, 7);
        x.feed(0xff3b6861726d2031L, 7);
        Due.is("risk 7;seen 1;harm 1 without an end", x.text(), -100);
        x.feed(0x5a7269736bL, 4);
        Due.is("risk", x.text(), -104);
    }

    private static void text() {
        WalkTheDike x = new WalkTheDike();
        for (int t = 1; t < 6; t++) {
            Due.is("text", Due.text(x, "risk " + t + ";seen 1;harm 1;"), t);
            Due.is("count(7)", x.count(7), t + 1);
            Due.is("count(9)", x.count(9), 0);
        }
        Due.feed(x, "what");
        Due.is("a seventh text", x.text(), WalkTheDike.FULL);
        Due.is("THE TAPE stays", x.count(9), 4);
        Due.is("THE LAW is as it was", x.count(8), 0);
        WalkTheDike y = new WalkTheDike();
        Due.is("an empty tape", y.text(), -100);
        Due.is("a fault", Due.text(y, "risk risk"), -105);
        Due.is("THE TAPE is empty by a fault, too", y.count(9), 0);
        Due.is("no text by a fault", y.count(7), 1);
        Due.is("as long as can be", Due.text(y, pad("risk 1;seen 2;harm 3;", 160)), 1);
        Due.is("blanks of 10", Due.text(y, "\nrisk\n1\n;seen\n2;harm 3 ;\n\n"), 2);
        Due.is("no blanks", Due.text(y, "risk 1*2+3;seen(1)<not1;"), -119);
    }

    private static String pad(String text, int size) {
        StringBuilder all = new StringBuilder(text);
        while (all.length() < size) {
            all.append(' ');
        }
        return all.toString();
    }

    private static void fault(String text, int place) {
        Due.is("text " + text, Due.text(new WalkTheDike(), text), -100 - place);
    }

    private static void good(String e) {
        Due.is("text of " + e, Due.text(new WalkTheDike(), "risk " + e + ";seen 1;harm 1;"), 1);
    }

    private static void badE(String e, int place) {
        fault("risk " + e + ";seen 1;harm 1;", 5 + place);
    }

    private static void faults() {
        fault("   ", 3);
        fault("risk", 4);
        fault("risk 1", 6);
        fault("risk 1 ", 7);
        fault("risk 1;", 7);
        fault("seen 1;risk 1;harm 1;", 0);
        fault("risk 1;harm 1;seen 1;", 7);
        fault("risk 1;seen 1;seen 1;", 14);
        fault("risk 1;seen 1;harm 1", 20);
        fault("risk 1;seen 1;harm 1;;", 21);
        fault("risk 1;seen 1;harm 1; risk", 22);
        fault("risk 1;seen 1;harm 1; %", 22);
        fault("risks 1;seen 1;harm 1;", 0);
        fault("ris 1;", 0);
        fault("Risk 1;", 0);
        fault("risk ;", 5);
        fault("1risk 1;", 0);
        badE("wate", 0);
        badE("waters", 0);
        badE("waterz", 0);
        badE("awater", 0);
        badE("water{", 5);
        badE("water`", 5);
        badE("1234/", 4);
        badE("1234:", 4);
        badE("1 + levee", 4);
        badE("12345", 0);
        badE("1 + 00001", 4);
        badE("1 1", 2);
        badE("1 water", 2);
        badE("water(1)", 5);
        badE("1 < 2 < 3", 6);
        badE("1 = 2 < 3", 6);
        badE("1 = = 3", 4);
        badE("1 + not 2", 4);
        badE("- not 2", 2);
        badE("+ 1", 0);
        badE("1 * * 1", 4);
        badE("1 or", 4);
        badE("1 and or 1", 6);
        badE("not", 3);
        badE("(1", 2);
        badE("(1))", 3);
        badE("()", 1);
        badE("1 # 1", 2);
        badE("1 \t 1", 2);
        badE("1 > 1", 2);
        badE("1 / 1", 2);
        badE("risk", 0);
        badE("or", 0);
        badE("1 + (2 * (3 - old) = 4", 22);
        Due.is("a byte above 127", Due.text(new WalkTheDike(), "risk 1 \u00e9"), -107);
        good("9999 + 0000");
        good("1-1");
        good("1--1");
        good("water*old*wind*step*worth*pace");
        good("1 < 2 and 2 = 3 or not 3 < 4 + 5");
        good("(1 < 2) < 3");
        good("not not 1 < 2");
    }

    private static void depth() {
        good("(((((1)))))");
        badE("((((((1))))))", 5);
        good("-----1");
        badE("------1", 5);
        good("not not not not not 1");
        badE("not not not not not not 1", 20);
        good("not(-(not 1))");
        badE("not(-(not(1)))", 9);
        good("not (not (-1))");
        badE("not (not (- -1))", 12);
        badE("not(not(-(1)))", 9);
        good("((((-1))))");
        badE("((((-(1)))))", 5);
        badE("(((((-1)))))", 5);
        badE("(((((not 1)))))", 5);
        badE("(((((2 * -1)))))", 9);
        // what has ended is no more open
        good("(((((1))))) + (((((1))))) * -----1 - (((((1)))))");
        good("not not not not not 1 and not not not not not 1 or -----1 < -----1");
        good("(((((1) + (2)) * (3)) - (-4)) + (-(-5)))");
        good("- - - - (1 - 2 - 3)");
        badE("- - - - (1 - -2 - 3)", 13);
        good("not (((-1 < 2)))");
        badE("not (((-(1) < 2)))", 8);
    }

    private static void value(String e, int want) {
        WalkTheDike x = new WalkTheDike();
        x.piece(1, 50);
        x.night(2, 7);
        x.water(3, 6);
        Due.law(x, "risk 1;seen 1;harm " + e + ";");
        Due.is("value of " + e, x.asks(2, 0, 3, 5, 0), want);
    }

    private static void values() {
        value("water", 6);
        value("old", 1);
        value("wind", 7);
        value("step", 5);
        value("worth", 50);
        value("pace", 0);
        value("2 + 3 * 4", 14);
        value("(2 + 3) * 4", 20);
        value("10 - 3 - 2", 5);
        value("10 - (3 - 2)", 9);
        value("2 * 3 * 4 - 1", 23);
        value("- 3 + 5", 2);
        value("5 - - 3", 8);
        value("- 3 * - 4", 12);
        value("-(2 - 5)", 3);
        value("1 < 2", 1);
        value("2 < 2", 0);
        value("3 < 2", 0);
        value("2 = 2", 1);
        value("2 = 3", 0);
        value("1 + 1 = 2", 1);
        value("1 + (1 = 2)", 1);
        value("not 0", 1);
        value("not 5", 0);
        value("not not 5", 1);
        value("not 1 < 0", 1);
        value("not 0 and 0", 0);
        value("not (0 and 0)", 1);
        value("5 and 3", 1);
        value("5 and 0", 0);
        value("5 and 1", 1);
        value("1 and 5", 1);
        value("0 and 5", 0);
        value("0 or 0", 0);
        value("0 or 7", 1);
        value("1 or 1 and 0", 1);
        value("(1 or 1) and 0", 0);
        value("0 and 0 or 1", 1);
        value("-1 and -1", 1);
        value("7", 7);
        value("0007", 7);
        value("999", 999);
        value("1000", 999);
        value("9999", 999);
        value("-1", 0);
        // 32 bits, wrapping: 9999^4 is 9996000599960001, its lowest 32 bits a number below 0
        value("9999 * 9999 * 9999 * 9999 < 0", (int) 9996000599960001L < 0 ? 1 : 0);
        value("9999 * 9999 * 9999 * 9999 + 1000 - " + part((int) 9996000599960001L), 999);
        value("2048 * 1024 * 1024 < 0", 1);
        value("2048 * 1024 * 1024 - 1 = -1 - 2048 * 1024 * 1024", 1);
        value("4096 * 1024 * 1024 + 5", 5);
    }

    /** A number of 32 bits as a text of short NUMBERS, in brackets. */
    private static String part(int v) {
        return "((" + v / 1000000 + ") * 1000 * 1000 + (" + v / 1000 % 1000 + ") * 1000 + (" + v % 1000 + "))";
    }

    private static void force() {
        WalkTheDike x = Due.withPieces(10);
        Due.is("force(1)", x.force(1), WalkTheDike.BAD);
        Due.is("force(-1)", x.force(-1), WalkTheDike.BAD);
        Due.is("force(0)", x.force(0), 0);
        Due.text(x, "risk 11;seen 12;harm 13;");
        Due.text(x, "risk 21;seen 22;harm 23;");
        Due.is("first law", x.asks(2, 0, 0, 1, 0), 10);
        Due.is("force(2)", x.force(2), 0);
        Due.is("count(8)", x.count(8), 2);
        for (int part = 0; part < 3; part++) {
            Due.is("asks " + part, x.asks(part, 0, 0, 1, 0), 21 + part);
        }
        Due.is("force(1)", x.force(1), 2);
        for (int part = 0; part < 3; part++) {
            Due.is("asks " + part, x.asks(part, 0, 0, 1, 0), 11 + part);
        }
        Due.is("force(3)", x.force(3), WalkTheDike.BAD);
        Due.is("force(0)", x.force(0), 1);
        Due.is("first law", x.asks(2, 0, 0, 1, 0), 10);
    }

    private static void asks() {
        WalkTheDike x = Due.withPieces(10, 20);
        Due.is("no such piece", x.asks(9, 2, -1, 0, 0), -5);
        Due.is("no such piece", x.asks(0, -1, 0, 0, 0), -5);
        Due.is("part", x.asks(3, 0, 0, 0, 0), -7);
        Due.is("part", x.asks(-1, 0, 0, 0, 0), -7);
        Due.is("hour", x.asks(0, 0, 12, 0, 0), -7);
        Due.is("hour", x.asks(0, 0, -1, 0, 0), -7);
        Due.is("step", x.asks(0, 0, 0, 13, 0), -7);
        Due.is("step", x.asks(0, 0, 0, -1, 0), -7);
        Due.is("pace", x.asks(0, 0, 0, 0, 4), -7);
        Due.is("pace", x.asks(0, 0, 0, 0, -1), -7);
        Due.is("an hour behind the night", x.asks(2, 1, 11, 12, 3), 240);
        Due.is("SEEN", x.asks(1, 0, 0, 1, 0), 45);
        Due.is("SEEN", x.asks(1, 0, 0, 1, 3), 15);
        Due.is("SEEN, the bound", x.asks(1, 0, 0, 12, 0), 100);
        Due.is("SEEN, 0", x.asks(1, 0, 0, 0, 3), 0);
        Due.law(x, "risk step * 40 - pace; seen 0 - step + pace * 5; harm step * 300 - 300 + pace;");
        Due.is("RISK is of pace 0", x.asks(0, 0, 0, 2, 3), 80);
        Due.is("RISK, the bound", x.asks(0, 0, 0, 6, 0), 200);
        Due.is("RISK, 0", x.asks(0, 0, 0, 0, 3), 0);
        Due.is("SEEN, 0", x.asks(1, 0, 0, 7, 1), 0);
        Due.is("SEEN by pace", x.asks(1, 0, 0, 7, 3), 8);
        Due.is("HARM is of pace 0", x.asks(2, 0, 0, 3, 2), 600);
        Due.is("HARM, 0", x.asks(2, 0, 0, 0, 2), 0);
        Due.is("HARM, the bound", x.asks(2, 0, 0, 5, 2), 999);
        x.set(0, 2, 2);
        Due.is("HARM by SACKS", x.asks(2, 0, 0, 4, 0), 300);
        Due.is("HARM by SACKS, 0 at least", x.asks(2, 0, 0, 1, 0), 0);
        Due.is("RISK not by SACKS", x.asks(0, 0, 0, 2, 0), 80);
        Due.is("SEEN not by SACKS", x.asks(1, 0, 0, 7, 3), 8);
        Due.is("HARM of another", x.asks(2, 1, 0, 3, 0), 600);
    }
}
