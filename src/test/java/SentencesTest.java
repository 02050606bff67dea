import java.io.File;
import java.lang.reflect.Method;
import java.util.BitSet;
import java.util.Set;
import java.util.TreeSet;

/** Each word of Terms and of the promises stands in a sentence that has a test of its own. */
public final class SentencesTest {
    private static final BitSet[] HELD = new BitSet[Doc.PROMISES + 1];

    public static void main(String[] args) throws ReflectiveOperationException {
        for (int of = 0; of <= Doc.PROMISES; of++) {
            HELD[of] = new BitSet();
        }
        Set<String> sentences = new TreeSet<>();
        for (String name : new TreeSet<>(Set.of(new File("src/test/java").list()))) {
            if (name.matches("Edges\\w+Test\\.java")) {
                for (Method test : Edges.testsOf(Class.forName(name.replace(".java", "")))) {
                    Says says = test.getAnnotation(Says.class);
                    Due.is("one test alone holds " + says.of() + ", " + says.value(),
                        sentences.add(says.of() + ", " + says.value()) ? 1 : 0, 1);
                    hold(says);
                }
            }
        }
        for (int of = 0; of <= Doc.PROMISES; of++) {
            String words = Doc.words(of);
            Due.is("words of " + of, words.isEmpty() ? 0 : 1, 1);
            Due.is("of " + of + " no test holds '" + left(words, HELD[of]) + "'; signs", left(words, HELD[of]).length(), 0);
        }
        Due.end();
    }

    /** Where the words stand; if they stand in several places, the first one that no other test holds. */
    private static void hold(Says says) {
        String words = Doc.words(says.of());
        int at = words.indexOf(says.value());
        while (at >= 0 && HELD[says.of()].get(at) && words.indexOf(says.value(), at + 1) >= 0) {
            at = words.indexOf(says.value(), at + 1);
        }
        Due.is("DOC.md says '" + says.value() + "' at " + says.of(), at >= 0 ? 1 : 0, 1);
        if (at >= 0) {
            HELD[says.of()].set(at, at + says.value().length());
        }
    }

    private static String left(String words, BitSet held) {
        StringBuilder left = new StringBuilder();
        for (int i = 0; i < words.length(); i++) {
            if (!held.get(i) && words.charAt(i) != ' ') {
                left.append(words.charAt(i));
            }
        }
        return left.toString();
    }
}
