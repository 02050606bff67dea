import java.io.IOException;
import java.lang.reflect.Constructor;
import java.lang.reflect.Field;
import java.lang.reflect.Method;
import java.lang.reflect.Modifier;
import java.nio.file.Files;
import java.nio.file.Path;
import java.util.ArrayList;
import java.util.Arrays;
import java.util.List;
import java.util.Set;
import java.util.TreeSet;
import java.util.regex.Matcher;
import java.util.regex.Pattern;

/** The face that DOC.md tells, and the rules of LANGUAGE.md as far as a look at the source can tell. */
public final class LanguageTest {
    private static final Path SOURCE = Path.of("src/main/java/WalkTheDike.java");
    private static final Path DOC = Path.of("../shared/DOC.md");

    public static void main(String[] args) throws IOException {
        String source = Files.readString(SOURCE);
        face();
        words(bare(source));
        libraryUsed(source);
        nested();
        methods(bare(source));
        made(bare(source));
        Due.end();
    }

    /** Without comments, texts and chars. */
    private static String bare(String source) {
        String s = source.replaceAll("(?s)/\\*.*?\\*/", " ").replaceAll("//[^\n]*", " ");
        return s.replaceAll("\"[^\"\n]*\"", "TEXT").replaceAll("'\\\\?.'", "SIGN");
    }

    private static String told(Class<?> type, String name, Class<?>[] types) {
        List<String> all = new ArrayList<>();
        for (Class<?> t : types) {
            all.add(t.getSimpleName());
        }
        return type.getSimpleName() + " " + name + String.join(",", all);
    }

    private static void face() throws IOException {
        Set<String> due = new TreeSet<>();
        Matcher m = Pattern.compile("public (int|long) (\\w+)\\(([^)]*)\\);").matcher(Files.readString(DOC));
        while (m.find()) {
            due.add(m.group(1) + " " + m.group(2) + m.group(3).replaceAll("(int|long) \\w+", "$1").replace(", ", ","));
        }
        Due.is("methods in DOC.md", due.size(), 46);
        Set<String> got = new TreeSet<>();
        Set<String> names = new TreeSet<>();
        for (Method method : WalkTheDike.class.getDeclaredMethods()) {
            if (Modifier.isPublic(method.getModifiers())) {
                got.add(told(method.getReturnType(), method.getName(), method.getParameterTypes()));
                names.add(method.getName());
            } else {
                isTrue(method + " is private", Modifier.isPrivate(method.getModifiers()));
            }
        }
        isTrue("the face " + got + " is as told: " + due, got.equals(due));
        for (Class<?> c : all()) {
            for (Method method : c.getDeclaredMethods()) {
                isTrue(method + " bears no public name", c == WalkTheDike.class
                    && Modifier.isPublic(method.getModifiers()) || !names.contains(method.getName()));
                isTrue(method + " has at most 7 parameters", method.getParameterCount() <= 7);
            }
        }
        Set<String> constants = new TreeSet<>();
        for (Field field : WalkTheDike.class.getDeclaredFields()) {
            if (Modifier.isPublic(field.getModifiers())) {
                constants.add(field.toString());
            } else {
                isTrue(field + " is private", Modifier.isPrivate(field.getModifiers()));
            }
        }
        isTrue("constants " + constants, constants.size() == 5);
        Constructor<?>[] made = WalkTheDike.class.getDeclaredConstructors();
        isTrue("one constructor", made.length == 1 && Modifier.isPublic(made[0].getModifiers())
            && made[0].getParameterCount() == 0);
        isTrue("public and final", Modifier.isPublic(WalkTheDike.class.getModifiers())
            && Modifier.isFinal(WalkTheDike.class.getModifiers()));
    }

    private static List<Class<?>> all() {
        List<Class<?>> all = new ArrayList<>(Arrays.asList(WalkTheDike.class.getDeclaredClasses()));
        all.add(WalkTheDike.class);
        return all;
    }

    private static void words(String source) {
        for (String word : new String[] {"throws?", "try", "catch", "finally", "synchronized", "assert", "volatile",
            "transient", "native", "double", "float", "Object", "\\w*Exception", "\\w+Exact", "equals", "hashCode",
            "toString", "package", "protected", "Random", "Thread", "var"}) {
            isTrue("no " + word, count(source, "\\b" + word + "\\b") == 0);
        }
        for (String sign : new String[] {"->", "::", "@", "\"\"\""}) {
            isTrue("no " + sign, !source.contains(sign));
        }
        isTrue("no text is joined by +", !Pattern.compile("TEXT\\s*\\+|\\+\\s*TEXT").matcher(source).find());
        isTrue("no static block", !Pattern.compile("static\\s*\\{").matcher(source).find());
        isTrue("public members of the face alone", count(source, "\\bpublic ") == 46 + 4);
    }

    private static void libraryUsed(String source) {
        isTrue("imports", source.replaceAll("(?m)^import java\\.util\\.Arrays;$", "").indexOf("import ") < 0);
        Set<String> used = new TreeSet<>();
        Matcher m = Pattern.compile("\\b(Math|Arrays|System|Integer|Long|String|List)\\.(\\w+)").matcher(bare(source));
        while (m.find()) {
            used.add(m.group());
        }
        isTrue("library used: " + used, Set.of("Math.max", "Math.min", "Math.abs", "Arrays.fill", "System.arraycopy")
            .containsAll(used));
        for (char c : source.toCharArray()) {
            isTrue("signs 1 to 127", c >= 1 && c <= 127);
        }
    }

    private static void nested() {
        isTrue("some twelve classes", all().size() <= 12);
        for (Class<?> c : all()) {
            int fields = 0;
            for (Field field : c.getDeclaredFields()) {
                if (!Modifier.isStatic(field.getModifiers())) {
                    fields++;
                } else {
                    isTrue(field + " is final", Modifier.isFinal(field.getModifiers()));
                    isTrue(field + " is a constant", Set.of("int", "long", "boolean", "char", "String", "int[]", "long[]",
                        "char[]", "byte[]").contains(field.getType().getSimpleName()));
                }
            }
            isTrue(c + " has some twenty fields", fields <= 20);
            isTrue(c + " is final", Modifier.isFinal(c.getModifiers()));
            isTrue(c + " is static, and no more seen than that", c == WalkTheDike.class
                || Modifier.isStatic(c.getModifiers()) && !Modifier.isPublic(c.getModifiers())
                && !Modifier.isProtected(c.getModifiers()));
            isTrue(c + " has none inside", c == WalkTheDike.class || c.getDeclaredClasses().length == 0);
        }
    }

    /** Each method in this source ends by a brace in the column in which its line began. */
    private static void methods(String source) {
        String[] lines = source.split("\n");
        int seen = 0;
        for (int i = 0; i < lines.length; i++) {
            if (lines[i].matches("( {4}| {8})(public|private|static|int|long|boolean|void|[A-Z]\\w+\\().*\\{")
                    && !lines[i].contains(" class ")) {
                String end = lines[i].replaceAll("^( *).*", "$1") + "}";
                int k = i;
                while (k < lines.length && !lines[k].equals(end)) {
                    k++;
                }
                seen++;
                isTrue(lines[i].trim() + " is short", k < lines.length && k - i < 60);
            }
        }
        isTrue("methods seen: " + seen, seen > 100);
    }

    /** All rows are made with the object, so no call makes any: the room stays small however many calls there are. */
    private static void made(String source) {
        int seen = 0;
        for (String line : source.split("\n")) {
            if (Pattern.compile("\\bnew\\b|\\bclone\\b|StringBuilder|ArrayList").matcher(line).find()) {
                seen++;
                isTrue("is made with the object: " + line.trim(),
                    line.matches("( {4}| {8})(private )?final [A-Za-z]+(\\[\\])? \\w+ = new [^;{]*;"));
            }
        }
        isTrue("lines that make something: " + seen, seen > 30);
    }

    private static int count(String source, String what) {
        int n = 0;
        Matcher m = Pattern.compile(what).matcher(source);
        while (m.find()) {
            n++;
        }
        return n;
    }

    private static void isTrue(String what, boolean is) {
        Due.is(what, is ? 1 : 0, 1);
    }
}
