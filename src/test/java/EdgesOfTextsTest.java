/** Terms: what a TEXT is, where its FAULT is, what an E is, the bounds of RISK, SEEN and HARM. */
public final class EdgesOfTextsTest extends Edges {
    private static final String KEYS_AND_NAMES = " risk seen harm or and not water old wind step worth pace ";

    public static void main(String[] args) throws ReflectiveOperationException {
        hold(EdgesOfTextsTest.class);
    }

    private static void fault(String text, int place) {
        WalkTheDike x = new WalkTheDike();
        Due.is("text " + text, Due.text(x, text), -100 - place);
        Due.is("TEXTS behind the FAULT of " + text, x.count(7), 1);
        Due.is("THE TAPE behind the FAULT of " + text, x.count(9), 0);
    }

    /** The FAULT of an E, by its place in it. */
    private static void bad(String e, int place) {
        fault("risk " + e + ";seen 1;harm 1;", 5 + place);
        fault("risk 1;seen " + e + ";harm 1;", 12 + place);
        fault("risk 1;seen 1;harm " + e + ";", 19 + place);
    }

    private static void good(String e) {
        Due.is("text of " + e, Due.text(new WalkTheDike(), "risk " + e + ";seen " + e + ";harm 1;"), 1);
    }

    /** What an E is that is of step 5, of an OLD PIECE of WORTH 50, by WIND 7 and WATER 6; 0 .. 999. */
    private static void value(String e, int want) {
        WalkTheDike x = new WalkTheDike();
        x.piece(1, 50);
        x.night(2, 7);
        x.water(3, 6);
        Due.law(x, "risk 1;seen 1;harm " + e + ";");
        Due.is("value of " + e, x.asks(2, 0, 3, 5, 0), want);
    }

    /** An E is an int, also one below 0 or beyond HARM's bound. */
    private static void exactly(String e, String number) {
        value("(" + e + " = " + number + ") * 7", 7);
    }

    @Says(of = 0, value = "A TEXT is read from THE TAPE (160 bytes at most).")
    static void tapeOf160() {
        WalkTheDike x = new WalkTheDike();
        StringBuilder text = new StringBuilder("risk 1;seen 2;harm 3");
        while (text.length() < 159) {
            text.append(' ');
        }
        Due.is("159 bytes", Due.feed(x, text.toString()), 159);
        is(x, "feed(0, 2)", FULL);
        Due.is("160 bytes", x.feed(';', 1), 160);
        is(x, "feed(32, 1)", FULL);
        is(x, "count(9)", 160);
        is(x, "text()", 1);
        // the last byte is read: without it the FAULT is the text's size, by another one there
        Due.is("159 bytes", Due.text(x, text.toString()), -100 - 159);
        Due.is("160 bytes", Due.text(x, text + "%"), -100 - 159);
        Due.is("160 bytes", Due.text(x, text + " "), -100 - 160);
    }

    @Says(of = 0, value = "TOKENS, each as long as can be: WORDS (as many letters a .. z as stand there),")
    static void words() {
        Due.is("no blanks are needed", Due.text(new WalkTheDike(), "risk1or1;seen1and(1);harm not1;"), 1);
        bad("waterold", 0);
        bad("water old", 6);
        bad("orwater", 0);
        bad("1 orwater", 2);
        bad("watera", 0);
        bad("waterz", 0);
        bad("awater", 0);
        bad("zwater", 0);
        fault("riskwater;", 0);
        // the bytes beside a .. z end a WORD
        bad("water`", 5);
        bad("water{", 5);
        bad("waterA", 5);
        bad("waterZ", 5);
        bad("`water", 0);
        bad("{water", 0);
        bad("Water", 0);
        fault("RISK 1;", 0);
    }

    @Says(of = 0, value = "NUMBERS (as many digits as stand there; more than 4 are too long),")
    static void numbers() {
        good("0");
        good("9999");
        good("0000");
        exactly("9999", "1000 * 9 + 999");
        value("0007", 7);
        value("1000 - 999", 1);
        bad("10000", 0);
        bad("99999", 0);
        bad("00000", 0);
        bad("00001", 0);
        bad("1 + 12345", 4);
        bad("123456789012345678901234567890", 0);
        bad("12 34", 3);
        bad("1234/", 4);
        bad("1234:", 4);
        bad("/1234", 0);
        bad(":1234", 0);
        // 4 digits, and a WORD behind them
        good("1234or 1");
    }

    @Says(of = 0, value = "SIGNS ( ) ; + - * < = ;")
    static void signs() {
        good("(1)+1-1*1<1");
        good("1=1");
        for (int b = 0; b < 256; b++) {
            // behind "1" these can stand, and the text ends too early
            boolean stands = "+-*<=; \n".indexOf(b) >= 0;
            fault("risk 1 " + (char) b, stands ? 8 : 7);
        }
    }

    @Says(of = 0, value = "blanks (32, 10) may stand between.")
    static void blanks() {
        Due.is("32", Due.text(new WalkTheDike(), "  risk  1  ;  seen  (  2  )  ;  harm  -  3  ;  "), 1);
        Due.is("10", Due.text(new WalkTheDike(), "\n\nrisk\n1\n;\nseen\n(\n2\n)\n;\nharm\n-\n3\n;\n\n"), 1);
        Due.is("none", Due.text(new WalkTheDike(), "risk 1;seen(2);harm-3;"), 1);
        // between TOKENS alone
        bad("wat er", 0);
        bad("12 3", 3);
        for (int b : new int[] {0, 8, 9, 11, 12, 13, 31, 33, 127, 128, 160, 255}) {
            fault("risk 1 " + (char) b + ";seen 1;harm 1;", 7);
        }
        fault(" ", 1);
        fault("\n \n", 3);
    }

    @Says(of = 0, value = "TEXT: risk E ; seen E ; harm E ;")
    static void wholeText() {
        Due.is("all three", Due.text(new WalkTheDike(), "risk 1;seen 2;harm 3;"), 1);
        fault("seen 1;risk 1;harm 1;", 0);
        fault("harm 1;seen 1;risk 1;", 0);
        fault("risk 1;harm 1;seen 1;", 7);
        fault("risk 1;risk 1;seen 1;harm 1;", 7);
        fault("risk 1;seen 1;seen 1;", 14);
        fault("risk ;seen 1;harm 1;", 5);
        fault("risk 1;seen ;harm 1;", 12);
        fault("risk 1;seen 1;harm ;", 19);
        fault("risk 1 seen 1;harm 1;", 7);
        fault("risk 1;seen 1 harm 1;", 14);
        fault("risk 1;seen 1;harm 1;;", 21);
        fault("risk 1;seen 1;harm 1;risk 1;", 21);
        fault("risk 1;seen 1;harm 1; 1", 22);
        fault("1;seen 1;harm 1;", 0);
        fault(";", 0);
    }

    @Says(of = 0, value = "E: AND { or AND }.")
    static void or() {
        value("0 or 0 or 1", 1);
        value("0 or 0 or 0 or 0 or 0 or 0 or 0 or 3", 1);
        value("1 or 1 and 0", 1);
        value("0 and 1 or 1", 1);
        bad("or 1", 0);
        bad("1 or", 4);
        bad("1 or or 1", 5);
    }

    @Says(of = 0, value = "AND: NOT { and NOT }.")
    static void and() {
        value("1 and 1 and 0", 0);
        value("1 and 2 and 3 and 4 and 5 and 6 and 7", 1);
        value("not 0 and 0", 0);
        value("1 < 2 and 2 < 3", 1);
        value("1 and not 0", 1);
        bad("and 1", 0);
        bad("1 and", 5);
        bad("1 and or 1", 6);
        bad("1 and and 1", 6);
    }

    @Says(of = 0, value = "NOT: not NOT, or SUM, perhaps < or = and a SUM.")
    static void not() {
        value("not 1 < 0", 1);
        value("not 1 = 2", 1);
        value("not not 3", 1);
        value("1 + 1 = 2", 1);
        value("3 < 2 + 2", 1);
        value("2 + 2 < 4", 0);
        bad("1 < 2 < 3", 6);
        bad("1 = 1 = 1", 6);
        bad("1 < 2 = 1", 6);
        bad("1 <", 3);
        bad("1 < < 2", 4);
        bad("= 1", 0);
        bad("1 < not 2", 4);
        bad("1 + not 2", 4);
        bad("- not 1", 2);
        bad("1 not 2", 2);
        bad("not", 3);
        bad("not < 1", 4);
    }

    @Says(of = 0, value = "SUM: TERM { + or - TERM }.")
    static void sum() {
        value("10 - 3 - 2", 5);
        value("10 - 3 + 2", 9);
        value("2 + 3 * 4", 14);
        value("20 - 3 * 4", 8);
        value("1 + 1 + 1 + 1 + 1 + 1 + 1 + 1 + 1 + 1", 10);
        value("5 - - 3", 8);
        bad("1 +", 3);
        bad("1 -", 3);
        bad("+ 1", 0);
        bad("1 + + 1", 4);
        bad("1 - + 1", 4);
    }

    @Says(of = 0, value = "TERM: ONE { * ONE }.")
    static void term() {
        value("2 * 3 * 4", 24);
        value("2 * 3 + 4", 10);
        value("2 * - 3 + 10", 4);
        value("2 * 2 * 2 * 2 * 2 * 2 * 2", 128);
        bad("* 1", 0);
        bad("1 *", 3);
        bad("1 * * 1", 4);
        bad("1 * + 1", 4);
    }

    @Says(of = 0, value = "ONE: a NUMBER, a NAME, - ONE, ( E ).")
    static void one() {
        value("7", 7);
        value("worth", 50);
        value("10 + - 3", 7);
        value("10 + - - - 3", 7);
        value("- 3 * - 4", 12);
        value("- (2 - 5)", 3);
        value("(7)", 7);
        value("(2 or 0)", 1);
        value("(10 - (3 - 2)) * 2", 18);
        bad("()", 1);
        bad("(1", 2);
        bad("1)", 1);
        bad("(1))", 3);
        bad("(1;", 2);
        bad("-", 1);
        bad("1 1", 2);
        bad("1 (1)", 2);
        bad("water(1)", 5);
        bad("(1)(1)", 3);
        bad("risk", 0);
        bad("1 + seen", 4);
        bad("1 + and", 4);
        bad("", 0);
    }

    @Says(of = 0, value = "NAMES: water old wind step worth pace.")
    static void names() {
        value("water", 6);
        value("old", 1);
        value("wind", 7);
        value("step", 5);
        value("worth", 50);
        value("pace", 0);
        for (String name : new String[] {"wate", "ol", "win", "ste", "wort", "pac", "waters", "olds", "winds", "steps",
            "worths", "paces", "since", "hour", "sacks", "lamp", "w", "x"}) {
            bad(name, 0);
        }
    }

    @Says(of = 0, value = "An E is an int (32 bits, wrapping):")
    static void wraps() {
        String two31 = "2048 * 1024 * 1024";
        // 2147483648 is -2147483648, and one less is 2147483647
        value(two31 + " < 0", 1);
        value("0 < " + two31 + " - 1", 1);
        exactly(two31 + " - 1 + 1", two31);
        exactly("-(" + two31 + ")", two31);
        exactly("- " + two31 + " - 1", two31 + " - 1");
        exactly(two31 + " + " + two31, "0");
        exactly("4096 * 1024 * 1024 + 5", "5");
        value("4096 * 1024 * 1024 + 5", 5);
        // 9999 * 9999 * 9999 is 999700029999, less 233 times 4294967296
        exactly("9999 * 9999 * 9999 + 1027 * 1000 * 1000 + 350 * 1000 - 31", "0");
        // as RISK, SEEN, HARM: below 0, beyond the bound
        WalkTheDike x = Due.withPieces(0);
        Due.law(x, "risk " + two31 + ";seen " + two31 + ";harm " + two31 + ";");
        row(x, "asks(%d, 0, 0, 0, 0)", 0, 0, 0);
        Due.law(x, "risk " + two31 + "-1;seen " + two31 + "-1;harm " + two31 + "-1;");
        row(x, "asks(%d, 0, 0, 0, 0)", 200, 100, 999);
    }

    @Says(of = 0, value = "of or, and, not, <, = 1 or 0 (what is not 0 is true).")
    static void truth() {
        value("2 and 4", 1);
        value("2 and 0", 0);
        value("2 or 4", 1);
        value("0 or 0", 0);
        value("0 or 4", 1);
        value("not 0", 1);
        value("not 1", 0);
        value("not 9", 0);
        value("not - 1", 0);
        value("- 1 and - 1", 1);
        value("- 1 or 0", 1);
        value("1 < 2", 1);
        value("2 < 2", 0);
        value("3 < 2", 0);
        value("- 1 < 0", 1);
        value("2 = 2", 1);
        value("2 = 3", 0);
        value("- 2 = 2", 0);
        // just 0, not less
        for (String e : new String[] {"0 or 0", "0 and 0", "0 and 1", "1 and 0", "not 1", "2 < 1", "1 < 1", "1 = 2"}) {
            value("(" + e + ") + 1", 1);
            value("1 - (" + e + ")", 1);
        }
        value("(3 < 4) * 7 + (3 = 3) * 7 + (not 0) * 7 + (1 or 1) * 7 + (3 and 3) * 7", 35);
    }

    @Says(of = 0, value = "FAULT: the place of the first byte of the first TOKEN that can't stand there")
    static void faults() {
        bad("1 water", 2);
        bad("1     water", 6);
        bad("1\n\n1234", 3);
        // of two the first
        bad("1 1 %", 2);
        bad("12345 %", 0);
        bad("1 % 12345", 2);
        fault("%risk", 0);
        fault("risk risk", 5);
        fault("water", 0);
        fault("risk 1;seen 1;harm 1; harm", 22);
        // at THE TAPE's first place, and at its last
        fault("1", 0);
        fault(" ".repeat(159) + ")", 159);
        fault("risk 1;seen 1;harm 1;" + " ".repeat(138) + ";", 159);
    }

    @Says(of = 0, value = "(the text's size, if it ends too early),")
    static void endsTooEarly() {
        String text = "risk 1 ; seen 1 ; harm 1 ;";
        for (int size = 0; size < text.length(); size++) {
            String start = text.substring(0, size);
            String word = start.substring(start.lastIndexOf(' ') + 1);
            boolean half = word.matches("[a-z]+") && !KEYS_AND_NAMES.contains(" " + word + " ");
            fault(start, half ? size - word.length() : size);
        }
        Due.is("the whole", Due.text(new WalkTheDike(), text), 1);
        fault("", 0);
        fault("risk 1;seen 1;harm 1", 20);
        fault("risk 1;seen 1;harm 1    ", 24);
        fault("risk (", 6);
        fault("risk 1 +", 8);
        fault(" ".repeat(160), 160);
    }

    @Says(of = 0, value = "also of a byte that begins none,")
    static void beginsNone() {
        for (int b : new int[] {0, 1, 9, 13, 33, 35, 36, 37, 38, 39, 44, 46, 47, 58, 62, 63, 64, 65, 90, 91, 94, 95, 96, 123,
            125, 126, 127, 128, 169, 255}) {
            fault("risk 1 + " + (char) b, 9);
            fault("risk 1 " + (char) b + " + 1;seen 1;harm 1;", 7);
            fault((char) b + "", 0);
            fault("risk 1;seen 1;harm 1;" + (char) b, 21);
        }
    }

    @Says(of = 0, value = "of a WORD that is neither KEY nor NAME,")
    static void strangeWords() {
        bad("dike", 0);
        bad("1 + dike", 4);
        bad("1 dike 1", 2);
        fault("dike 1;", 0);
        fault("risk 1;dike 1;", 7);
        fault("risk 1;seen 1;harm 1;dike", 21);
        bad("ors", 0);
        bad("1 ands 1", 2);
        bad("nots 1", 0);
        bad("no 1", 0);
        fault("seens 1;", 0);
        fault("risk 1;see 1;", 7);
        fault("ris", 0);
    }

    @Says(of = 0, value = "a NUMBER that is too long,")
    static void longNumbers() {
        bad("12345", 0);
        bad("(((12345", 3);
        bad("1 12345", 2);
        bad("1 + 1234 + 12345", 11);
        fault("12345", 0);
        fault("risk 00000", 5);
        fault("risk 1;seen 1;harm 1;12345", 21);
    }

    @Says(of = 0, value = "a ( , a not, a - ahead of a ONE while 5 of these are open")
    static void fiveOpen() {
        good("(((((1)))))");
        bad("((((((1))))))", 5);
        good("- - - - - 1");
        bad("- - - - - - 1", 10);
        good("not not not not not 1");
        bad("not not not not not not 1", 20);
        good("not (- (- 1))");
        bad("not (- (- - 1))", 10);
        bad("not (- (- (1)))", 10);
        good("not (- ((1)))");
        bad("not (- ((not 1)))", 9);
        bad("(((((not 1)))))", 5);
        bad("(((((- 1)))))", 5);
        bad("not not not not not - 1", 20);
        bad("not not not not not (1)", 20);
        bad("- - - - - (1)", 10);
        // a - between TERMS is none of these
        good("(((((1 - 1)))))");
        bad("(((((1 - - 1)))))", 9);
        bad("(((((1 and not 1)))))", 11);
        bad("(((((1 + (1))))))", 9);
    }

    @Says(of = 0, value = "(a ( till its ) , not and - till what they belong to ends).")
    static void open() {
        good("(((((1))))) + (((((1)))))");
        good("- - - - - 1 - - - - - - 1");
        good("- - - - - 1 * - - - - - 1");
        value("not not not not not 1 and not not not not not 1 or not not not not not 0", 1);
        good("not not not not not 1 < 1 and (((((1)))))");
        good("((((1) + (1)) * (1)) - - 1)");
        // - belongs to a ONE: it has ended ahead of the *, + and ) behind it
        good("((((- 1 * (1)))))");
        good("((((- 1 + - 1))))");
        bad("((((- (1)))))", 6);
        // not belongs to all up to the and: it is open still behind < and +
        bad("((((not 1 < (1)))))", 12);
        bad("((((not 1 + (1)))))", 12);
        bad("((((not 1 * - 1))))", 12);
        good("((((not 1 and (1)))))");
        good("((((not 1 or not 1))))");
        // of - ( ) the - ends with the )
        good("- (- (- 1)) + (((((1)))))");
    }

    @Says(of = 0, value = "TEXTS are numbered from 0 on, 6 at most;")
    static void sixTexts() {
        WalkTheDike x = Due.withPieces(0);
        is(x, "count(7)", 1);
        for (int t = 1; t < 6; t++) {
            Due.is("force ahead of it", x.force(t), BAD);
            Due.is("text", Due.text(x, "risk 10" + t + ";seen 1;harm 1;"), t);
            Due.is("TEXTS", x.count(7), t + 1);
        }
        Due.is("a seventh", Due.text(x, "risk 1;seen 1;harm 1;"), FULL);
        is(x, "count(7)", 6);
        for (int t = 1; t < 6; t++) {
            x.force(t);
            Due.is("RISK by TEXT " + t, x.asks(0, 0, 0, 0, 0), 100 + t);
        }
        is(x, "force(6)", BAD);
    }

    @Says(of = 0, value = "TEXT 0, at first, and THE LAW: risk water * 4 + old * 20 + step ; seen 30 + step * 15 - pace * 10 ;"
        + " harm step * worth ;")
    static void textZero() {
        WalkTheDike x = new WalkTheDike();
        is(x, "count(7)", 1);
        is(x, "count(8)", 0);
        is(x, "force(0)", 0);
        x.piece(1, 99);
        x.piece(0, 1);
        x.water(11, 9);
        is(x, "asks(0, 0, 11, 12, 0)", 68);
        is(x, "asks(0, 0, 0, 0, 0)", 20);
        is(x, "asks(0, 1, 0, 0, 0)", 0);
        is(x, "asks(0, 1, 0, 12, 0)", 12);
        is(x, "asks(1, 0, 0, 0, 0)", 30);
        is(x, "asks(1, 0, 0, 0, 3)", 0);
        is(x, "asks(1, 0, 0, 4, 0)", 90);
        is(x, "asks(1, 0, 0, 5, 0)", 100);
        is(x, "asks(1, 0, 0, 12, 3)", 100);
        is(x, "asks(1, 0, 0, 5, 1)", 95);
        is(x, "asks(2, 0, 0, 10, 0)", 990);
        is(x, "asks(2, 0, 0, 11, 0)", 999);
        is(x, "asks(2, 1, 0, 12, 0)", 12);
        is(x, "asks(2, 0, 0, 0, 0)", 0);
    }

    @Says(of = 0, value = "Of a PIECE in an hour: water: WATER then; old, worth; wind.")
    static void ofAPiece() {
        WalkTheDike x = new WalkTheDike();
        x.piece(1, 3);
        x.piece(0, 70);
        x.night(0, 1);
        x.night(2, 2);
        x.water(0, 1);
        x.water(11, 9);
        Due.law(x, "risk water;seen old * 10 + wind;harm worth * 10 + water;");
        is(x, "asks(0, 0, 0, 0, 0)", 1);
        is(x, "asks(0, 0, 1, 0, 0)", 0);
        is(x, "asks(0, 0, 11, 0, 0)", 9);
        is(x, "asks(1, 0, 0, 0, 0)", 12);
        is(x, "asks(1, 1, 0, 0, 0)", 2);
        is(x, "asks(2, 0, 0, 0, 0)", 31);
        is(x, "asks(2, 1, 11, 0, 0)", 709);
        // as they are when it is asked
        x.water(11, 4);
        x.night(2, 9);
        x.set(1, 0, 1);
        x.set(0, 1, 99);
        is(x, "asks(0, 0, 11, 0, 0)", 4);
        is(x, "asks(1, 1, 0, 0, 0)", 19);
        is(x, "asks(2, 0, 0, 0, 0)", 991);
    }

    /** RISK, SEEN or HARM of an E, by step 2 and pace 3. */
    private static void told(int part, String e, int want) {
        WalkTheDike x = Due.withPieces(0);
        String[] es = {"1", "1", "1"};
        es[part] = e;
        Due.law(x, "risk " + es[0] + ";seen " + es[1] + ";harm " + es[2] + ";");
        Due.is("part " + part + " of " + e, x.asks(part, 0, 0, 2, 3), want);
    }

    private static void bounds(int part, int most) {
        told(part, "0", 0);
        told(part, "1", 1);
        told(part, "0 - 1", 0);
        told(part, "- 9999", 0);
        told(part, most - 1 + "", most - 1);
        told(part, most + "", most);
        told(part, most + 1 + "", most);
        told(part, "9999", most);
    }

    @Says(of = 0, value = "RISK: in how many of 1000 hours a hole begins (0 .. 200, else the bound): step: SINCE; pace 0.")
    static void risk() {
        bounds(0, 200);
        told(0, "step * 10 + pace", 20);
        WalkTheDike x = night(2, 2, "risk 9999;seen 0;harm 0;", 0);
        is(x, "state(0, 0, 1)", 200000000);
        Due.law(x, "risk 0 - 1;seen 0;harm 0;");
        is(x, "state(0, 0, 1)", 0);
        // SINCE is 2 in hour 1
        Due.law(x, "risk (step = 2) * 7 + pace;seen 0;harm 0;");
        is(x, "state(0, 0, 1)", 0);
        is(x, "state(0, 1, 1)", 7000000);
    }

    @Says(of = 0, value = "SEEN: how many of 100 looks see a hole (0 .. 100, else the bound): step: its step;")
    static void seen() {
        bounds(1, 100);
        told(1, "step * 10", 20);
        WalkTheDike x = night(1, 2, "risk 100;seen 9999;harm 0;", 0);
        x.lamp(0, 1);
        is(x, "run(2)", 100000000);
        Due.law(x, "risk 100;seen 0 - 1;harm 0;");
        is(x, "run(2)", 0);
        // holes begin in hour 0 alone: seen as they have step 3, in hour 2
        WalkTheDike y = night(5, 5, "risk water*100;seen (step = 3)*100;harm 0;", 0);
        y.water(0, 1);
        y.lamp(0, 1);
        is(y, "state(0, 1, 2)", 100000000);
        is(y, "state(0, 2, 3)", 0);
        is(y, "run(2)", 100000000);
    }

    @Says(of = 0, value = "pace: that of who looks (THE VILLAGE's, a LAMP's: 0).")
    static void paceOfWhoLooks() {
        for (int pace = 0; pace <= 3; pace++) {
            WalkTheDike x = night(1, 2, "risk 100;seen (pace = " + pace + ") * 100;harm 0;", 0);
            x.lamp(0, 1);
            Due.is("a LAMP, pace " + pace, x.run(2), pace == 0 ? 100000000 : 0);
            x.lamp(0, 0);
            x.night(4, 0);
            x.call(0);
            Due.is("THE VILLAGE, pace " + pace, x.run(2), pace == 0 ? 100000000 : 0);
            x.call(-1);
            x.man(0, 0, 10, 0);
            for (int of = 1; of <= 3; of++) {
                x.pace(0, of);
                Due.is("a MAN of PACE " + of + ", pace " + pace, x.run(2), pace == of ? 100000000 : 0);
            }
        }
    }

    @Says(of = 0, value = "HARM of a hole (0 .. 999, else the bound): step: its step less SACKS (0 at least); pace 0.")
    static void harm() {
        bounds(2, 999);
        told(2, "step * 10 + pace", 20);
        WalkTheDike x = Due.withPieces(0);
        Due.law(x, "risk 1;seen 1;harm step * 10 + 5 + pace;");
        for (int sacks = 0; sacks <= 3; sacks++) {
            x.set(0, 2, sacks);
            for (int step = 0; step <= 12; step++) {
                Due.is("step " + step + " less " + sacks, x.asks(2, 0, 0, step, 3), Math.max(0, step - sacks) * 10 + 5);
            }
        }
        // of a MAN of PACE 3, too, HARM is by pace 0
        WalkTheDike y = night(1, 2, "risk 100;seen 100;harm 1 + pace;", 0);
        y.man(0, 0, 30, 0);
        is(y, "run(0)", 100000000);
    }
}
