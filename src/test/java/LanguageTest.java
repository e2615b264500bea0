import java.io.IOException;
import java.lang.reflect.Field;
import java.lang.reflect.Method;
import java.lang.reflect.Modifier;
import java.nio.file.Files;
import java.nio.file.Path;
import java.util.Arrays;
import java.util.Set;
import java.util.TreeSet;
import java.util.regex.Matcher;
import java.util.regex.Pattern;

/** What of LANGUAGE.md a program can look at: the face, the words used, names and sizes. */
public final class LanguageTest {
    private static final String FACE = "ahead book books count fault feed goBack guess guide habit keep lay likely list"
            + " make mark mend order put room search seed set shelf shelve stock take tidy width wrong";
    private static final String[] RULED_OUT = {"throw", "try", "catch", "finally", "synchronized", "assert", "import",
        "package", "instanceof", "protected", "native", "transient", "volatile", "->", "::", "@", "System", "Object"};
    private static final Due due = new Due("LanguageTest");

    public static void main(String[] args) throws IOException {
        face();
        constants();
        for (Class<?> own : OutOfPlace.class.getDeclaredClasses()) {
            classInside(own);
        }
        fields(OutOfPlace.class);
        due.is("at most twelve classes", Math.min(12, 1 + OutOfPlace.class.getDeclaredClasses().length),
                1 + OutOfPlace.class.getDeclaredClasses().length);
        String source = Files.readString(Path.of("src/main/java/OutOfPlace.java"));
        words(source);
        library(source);
        lengths(source);
        sections(source);
        due.end();
    }

    private static void face() {
        Set<String> open = new TreeSet<>();
        for (Method method : OutOfPlace.class.getDeclaredMethods()) {
            if (!Modifier.isPrivate(method.getModifiers())) {
                open.add(method.getName());
            } else {
                notOfTheFace(method);
            }
        }
        due.textIs("the face", String.join(" ", open), FACE);
        due.is("constructors", OutOfPlace.class.getDeclaredConstructors().length, 1);
        due.is("final", Modifier.isFinal(OutOfPlace.class.getModifiers()) ? 1 : 0, 1);
    }

    private static void constants() {
        due.is("NONE", OutOfPlace.NONE, -1);
        due.is("UNKNOWN", OutOfPlace.UNKNOWN, -1001);
        due.is("OUTSIDE", OutOfPlace.OUTSIDE, -1002);
        due.is("NOT", OutOfPlace.NOT, -1003);
        due.is("FULL", OutOfPlace.FULL, -1004);
        long open = Arrays.stream(OutOfPlace.class.getDeclaredFields())
                .filter(field -> !Modifier.isPrivate(field.getModifiers())).count();
        due.is("open fields", open, 5);
    }

    private static void notOfTheFace(Method method) {
        boolean same = Arrays.asList(FACE.split(" ")).contains(method.getName());
        due.is("private method " + method.getName() + " bears a public name", same ? 1 : 0, 0);
        due.is("parameters of " + method.getName(), method.getParameterCount() > 7 ? 1 : 0, 0);
    }

    private static void classInside(Class<?> own) {
        due.is(own + " is static", Modifier.isStatic(own.getModifiers()) ? 1 : 0, 1);
        due.is(own + " is private", Modifier.isPrivate(own.getModifiers()) ? 1 : 0, 1);
        for (Method method : own.getDeclaredMethods()) {
            notOfTheFace(method);
        }
        fields(own);
    }

    /** No more than twenty beside constants, and what is static is a constant of a kind that may be. */
    private static void fields(Class<?> own) {
        int inObjects = 0;
        for (Field field : own.getDeclaredFields()) {
            if (Modifier.isStatic(field.getModifiers())) {
                due.is(field + " is final", Modifier.isFinal(field.getModifiers()) ? 1 : 0, 1);
                boolean mayBe = field.getType() == int.class || field.getType() == long.class;
                due.is(field + " is a number", mayBe ? 1 : 0, 1);
            } else {
                inObjects++;
            }
        }
        due.is("fields of " + own + " are too many", inObjects > 20 ? 1 : 0, 0);
    }

    /** What the interface says ahead of which calls. */
    private static void sections(String source) {
        String[] order = {"// ---- books", "feed", "books", "fault", "book", "mark", "ahead", "order", "count",
            "// ---- shelves", "width", "shelf", "room", "set", "put", "take",
            "// ---- out of place", "wrong", "tidy", "mend", "guess", "// ---- room, guides", "lay", "make", "guide",
            "// ---- stock, search", "list", "stock", "habit", "likely", "search",
            "// ---- draws, images", "seed", "shelve", "keep", "goBack"};
        int at = 0;
        for (String next : order) {
            int found = source.indexOf(next.startsWith("/") ? next + "\n" : "public int " + next + "(", at);
            due.is(next + " is in its place", found >= 0 ? 1 : 0, 1);
            at = Math.max(at, found);
        }
    }

    private static void words(String source) {
        due.is("signs above 126", source.chars().filter(sign -> sign > 126).count(), 0);
        String code = withoutComments(source);
        for (String word : RULED_OUT) {
            String sought = Character.isLetter(word.charAt(0)) ? "\\b" + word + "\\b" : Pattern.quote(word);
            due.is("uses of " + word, Pattern.compile(sought).matcher(code).find() ? 1 : 0, 0);
        }
    }

    /** Of the library only these functions; no texts at all, so none are joined by +. */
    private static void library(String source) {
        String code = withoutComments(source);
        Matcher used = Pattern.compile("\\b(Math|Integer|Long|String|StringBuilder|Arrays|List|ArrayList)\\b(\\.\\w+)?").matcher(code);
        while (used.find()) {
            boolean may = Set.of("Math.max", "Math.min", "Math.abs", "Integer.bitCount").contains(used.group());
            due.is("use of " + used.group(), may ? 1 : 0, 1);
        }
        due.is("texts", code.contains("\"") ? 1 : 0, 0);
    }

    /** A method or constructor ends where a line closes as far in as its head stood. */
    private static void lengths(String source) {
        Pattern head = Pattern.compile("( {4}| {8})(?!(private |public )?(static )?(final )?class)[a-zA-Z].*\\) \\{");
        String[] lines = source.split("\n");
        for (int i = 0; i < lines.length; i++) {
            Matcher method = head.matcher(lines[i]);
            if (method.matches() && !lines[i].trim().matches("(if|for|while|switch|}).*")) {
                int end = i;
                while (end < lines.length && !lines[end].equals(method.group(1) + "}")) {
                    end++;
                }
                due.is("lines of " + lines[i].trim() + " are too many", end - i >= 60 ? 1 : 0, 0);
            }
        }
    }

    private static String withoutComments(String source) {
        return source.replaceAll("(?s)/\\*.*?\\*/", "").replaceAll("//[^\n]*", "");
    }
}
