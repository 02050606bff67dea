/** Tells each answer that is not the one that is due, and ends a test. */
final class Due {
    private static int asked = 0;
    private static int wrong = 0;
    private static String sentence = "";

    private Due() {
    }

    /** Of what sentence of the document the next answers are. */
    static void of(String words) {
        sentence = words;
    }

    static int asked() {
        return asked;
    }

    static void is(String call, long got, long want) {
        asked++;
        if (got != want) {
            wrong++;
            if (wrong <= 40) {
                System.out.println(sentence + call + " answered " + got + ", due is " + want);
            }
        }
    }

    static void end() {
        System.out.println(asked + " asked, " + wrong + " wrong");
        if (wrong != 0 || asked == 0) {
            System.exit(1);
        }
    }

    /** A text's bytes come to THE TAPE, eight by eight: what the last feed() answered. */
    static int feed(WalkTheDike x, String text) {
        int answer = 0;
        for (int i = 0; i < text.length(); i += 8) {
            String part = text.substring(i, Math.min(text.length(), i + 8));
            long w = 0;
            for (int k = 0; k < part.length(); k++) {
                w = w << 8 | part.charAt(k);
            }
            answer = x.feed(w, part.length());
        }
        return answer;
    }

    /** What text() answers to a text. */
    static int text(WalkTheDike x, String text) {
        feed(x, text);
        return x.text();
    }

    /** A text becomes THE LAW. */
    static void law(WalkTheDike x, String text) {
        int t = text(x, text);
        if (t < 0) {
            is("the text " + text, t, 1);
        }
        x.force(t);
    }

    /** A SHEET becomes a row of ints. */
    static void row(WalkTheDike x, int s, int... numbers) {
        x.sheet(s, 2, numbers.length);
        for (int i = 0; i < numbers.length; i++) {
            x.cell(s, i, numbers[i]);
        }
    }

    static WalkTheDike withPieces(int... worths) {
        WalkTheDike x = new WalkTheDike();
        for (int v : worths) {
            x.piece(0, v);
        }
        return x;
    }

    /** A night of three hours in which holes break at step 3, by a law. */
    static WalkTheDike short3(String law, int... worths) {
        WalkTheDike x = withPieces(worths);
        x.night(0, 3);
        x.night(1, 3);
        law(x, law);
        return x;
    }
}
