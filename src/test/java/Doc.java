import java.io.IOException;
import java.nio.file.Files;
import java.nio.file.Path;
import java.util.regex.Matcher;
import java.util.regex.Pattern;

/** The words of DOC.md, without marks and breaks of lines: Terms are 0, the promises have their numbers. */
final class Doc {
    static final int PROMISES = 47;
    private static final String[] WORDS = new String[PROMISES + 1];

    private Doc() {
    }

    static String words(int of) {
        if (WORDS[0] == null) {
            read();
        }
        return WORDS[of] == null ? "" : WORDS[of];
    }

    private static void read() {
        String all;
        try {
            all = Files.readString(Path.of("../shared/DOC.md"));
        } catch (IOException e) {
            throw new IllegalStateException("no DOC.md", e);
        }
        Matcher terms = Pattern.compile("(?s)## Terms\n(.*?)\nAhead of the calls").matcher(all);
        WORDS[0] = terms.find() ? plain(terms.group(1).replaceAll("(?m)^```.*$", " ").replaceAll("={8} \\d ", " ")) : "";
        Matcher promise = Pattern.compile("(?s)## Promise (\\d+): .*?`.*?`: (.*?)\n\n## ").matcher(all);
        for (int from = 0; promise.find(from); from = promise.end() - 3) {
            WORDS[Integer.parseInt(promise.group(1))] = plain(promise.group(2));
        }
    }

    private static String plain(String words) {
        return words.trim().replaceAll("\\s+", " ");
    }
}
