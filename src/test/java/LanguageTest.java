import java.io.IOException;
import java.lang.reflect.Field;
import java.lang.reflect.Modifier;
import java.nio.file.Files;
import java.nio.file.Path;
import java.util.ArrayList;
import java.util.List;
import java.util.Set;
import java.util.regex.Matcher;
import java.util.regex.Pattern;

/** The rules of ../shared/LANGUAGE.md that can be seen in the class's text, or in its classes. */
public final class LanguageTest {
    private static final Set<String> IMPORTS = Set.of("java.util.Arrays", "java.util.ArrayList", "java.util.List",
        "java.util.Iterator", "java.util.NoSuchElementException");
    private static final Set<String> LIBRARY = Set.of("Math.min", "Math.max", "Math.abs", "Arrays.fill",
        "Arrays.copyOf", "Arrays.copyOfRange", "System.arraycopy", "Integer.compare", "Integer.bitCount");
    private static final Set<String> THROWN = Set.of("IllegalStateException", "IllegalArgumentException",
        "IndexOutOfBoundsException");
    private static final Set<String> CONSTANTS = Set.of("int", "long", "boolean", "char", "java.lang.String", "[I", "[J",
        "[C", "[B");
    private static final Pattern METHOD =
        Pattern.compile("^( {4}| {8})(?!return|throw|else|new)(?:\\w+ )*[\\w\\[\\]]+ \\w+\\(([^;{]*)\\)[^;{]*\\{");

    public static void main(String[] args) throws IOException {
        String text = Files.readString(Path.of("src/main/java/BalloonHouse.java"));
        String code = withoutWords(text);
        signs(text);
        forbidden(code);
        library(code);
        methods(code);
        classes();
        Check.end();
    }

    /** Without comments, and with empty texts and signs. */
    private static String withoutWords(String text) {
        String code = text.replaceAll("(?s)/\\*.*?\\*/", "").replaceAll("//[^\n]*", "");
        return code.replaceAll("\"(\\\\.|[^\"\\\\])*\"", "\"\"").replaceAll("'(\\\\.|[^'\\\\])'", "0");
    }

    private static void signs(String text) {
        long odd = text.chars().filter(c -> c != '\n' && (c < 32 || c > 126)).count();
        Check.due("signs beyond those of a plain text", (int) odd, 0);
        Check.same("no package", "" + text.contains("\npackage "), "false");
    }

    private static void forbidden(String code) {
        for (String word : new String[] {"try", "catch", "finally", "synchronized", "assert", "volatile", "transient",
            "native", "yield", "Object", "Class", "Thread", "Random", "hashCode", "toString", "getMessage", "equals",
            "double", "float", "super", "import static", "var"}) {
            Check.same(word, "" + Pattern.compile("\\b" + word + "\\b").matcher(code).find(), "false");
        }
        for (String sign : new String[] {"->", "::", "static {", "Exact(", "for (;;", "while (true", "@", "[][]"}) {
            Check.same(sign, "" + code.contains(sign), "false");
        }
    }

    private static void library(String code) {
        Matcher imports = Pattern.compile("import ([\\w.]+);").matcher(code);
        while (imports.find()) {
            Check.same("import " + imports.group(1), "" + IMPORTS.contains(imports.group(1)), "true");
        }
        String body = code.replaceAll("import [\\w.]+;", "");
        Matcher calls = Pattern.compile("\\b([A-Z][a-z]\\w*\\.\\w+)\\(").matcher(body);
        while (calls.find()) {
            Check.same("call of " + calls.group(1), "" + LIBRARY.contains(calls.group(1)), "true");
        }
        Matcher thrown = Pattern.compile("throw ([^;]*);").matcher(body);
        while (thrown.find()) {
            String what = thrown.group(1).replaceAll("new (\\w+)\\((\"\")?\\)", "$1");
            Check.same("throw of " + what, "" + THROWN.contains(what), "true");
        }
    }

    private static void methods(String code) {
        List<String> lines = new ArrayList<>(List.of(code.split("\n", -1)));
        int found = 0;
        for (int i = 0; i < lines.size(); i++) {
            String head = lines.get(i);
            if (!head.endsWith("{") && i + 1 < lines.size()) {
                head = head + " " + lines.get(i + 1).trim();
            }
            Matcher m = METHOD.matcher(head);
            if (!m.find()) {
                continue;
            }
            found++;
            int end = i;
            while (end < lines.size() && !lines.get(end).equals(m.group(1) + "}")) {
                end++;
            }
            Check.same("lines of " + head.trim(), "" + (end - i <= 60), "true");
            int takes = m.group(2).isBlank() ? 0 : m.group(2).split(",").length;
            Check.same("parameters of " + head.trim(), "" + (takes <= 7), "true");
        }
        Check.same("methods are found: " + found, "" + (found > 100), "true");
    }

    private static void classes() {
        List<Class<?>> all = new ArrayList<>(List.of(BalloonHouse.class.getDeclaredClasses()));
        for (Class<?> inside : all) {
            Check.same("static " + inside, "" + Modifier.isStatic(inside.getModifiers()), "true");
            Check.due("classes inside " + inside, inside.getDeclaredClasses().length, 0);
        }
        all.add(BalloonHouse.class);
        Check.same("classes: " + all.size(), "" + (all.size() <= 12), "true");
        for (Class<?> one : all) {
            int own = 0;
            for (Field f : one.getDeclaredFields()) {
                boolean fixed = Modifier.isStatic(f.getModifiers());
                own += fixed ? 0 : 1;
                boolean fine = Modifier.isFinal(f.getModifiers()) && CONSTANTS.contains(f.getType().getName());
                Check.same("static " + f, "" + (!fixed || fine), "true");
            }
            Check.same("fields of " + one + ": " + own, "" + (own <= 20), "true");
        }
    }
}
