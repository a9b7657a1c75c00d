import java.io.IOException;
import java.lang.reflect.Field;
import java.lang.reflect.Method;
import java.lang.reflect.Modifier;
import java.nio.file.Files;
import java.nio.file.Path;
import java.util.ArrayList;
import java.util.Arrays;
import java.util.List;
import java.util.Set;
import java.util.TreeSet;
import java.util.regex.Matcher;
import java.util.regex.Pattern;

/** The rules of ../shared/LANGUAGE.md that can be seen from the class's text or from what it is compiled to. */
public final class RulesTest {
    private static final Path SOURCE = Path.of("src/main/java/SubLedger.java");
    private static final int MAX_CLASSES = 12;
    private static final int MAX_FIELDS = 20;
    private static final int MAX_PARAMETERS = 7;
    private static final int MAX_METHOD_LINES = 60;
    private static final Set<String> EXCEPTIONS = Set.of("IllegalStateException", "IllegalArgumentException",
            "IndexOutOfBoundsException");
    private static final Set<String> IMPORTS = Set.of("java.util.ArrayList", "java.util.List");
    /** What no rule allows, or what allows more than the class needs. */
    private static final String[] NEVER = {"->", "::", "\\bcatch\\b", "\\bfinally\\b", "\\bsynchronized\\b", "\\bassert\\b",
        "\\bstatic\\s*\\{", "Exact\\b", "\\bhashCode\\b", "\\bSystem\\b", "\\bThread\\b", "\\bRandom\\b", "\\bObject\\b",
        "\\bClass\\b", "\\bLambda\\b", "\\bvar\\b", "\\bwhile \\(true\\)", "\\bfor \\(;", "\\bpackage\\b", "\\bprotected\\b",
        "\\bvolatile\\b", "\\bnative\\b", "\\.stream\\b", "\\bString\\.", "\\+ \"", "\" \\+"};

    public static void main(String[] args) throws IOException {
        String source = Files.readString(SOURCE);
        characters(source);
        String code = withoutComments(source);
        words(code);
        throwing(code);
        methodLines(source);
        for (Class<?> one : classes()) {
            members(one);
        }
        Check.end("RulesTest");
    }

    private static void characters(String source) {
        Check.due("signs 1 to 127 alone", true, () -> source.chars().allMatch(sign -> sign >= 1 && sign <= 127));
    }

    private static String withoutComments(String source) {
        return source.replaceAll("(?s)/\\*.*?\\*/", " ").replaceAll("//[^\n]*", " ");
    }

    /** Rules 1, 4 to 6, 10, 13. */
    private static void words(String code) {
        Matcher imported = Pattern.compile("import ([^;]*);").matcher(code);
        while (imported.find()) {
            String name = imported.group(1);
            Check.due("import of " + name, true, () -> IMPORTS.contains(name));
        }
        for (String never : NEVER) {
            // Texts of exceptions are emptied, so that their words are not taken for code.
            Matcher found = Pattern.compile(never).matcher(code.replaceAll("Exception\\(\"[^\"]*\"\\)", "Exception()"));
            Check.due("places with " + never, 0, () -> found.results().count());
        }
    }

    /** Rule 6: throw new E() or throw new E("a written text"), of the document's exceptions, and not in a constructor. */
    private static void throwing(String code) {
        Matcher thrown = Pattern.compile("throw\\b([^;]*);").matcher(code);
        int many = 0;
        while (thrown.find()) {
            many++;
            Matcher made = Pattern.compile(" new (\\w+)\\((\"[^\"]*\")?\\)").matcher(thrown.group(1));
            Check.due("throw" + thrown.group(1), true, () -> made.matches() && EXCEPTIONS.contains(made.group(1)));
        }
        int all = many;
        Check.due("some are thrown", true, () -> all > 0);
    }

    /** Rule 11: "Methods stay short (some sixty lines)". */
    private static void methodLines(String source) {
        String[] lines = source.split("\n");
        for (int i = 0; i < lines.length; i++) {
            String line = lines[i];
            String gap = line.startsWith("        ") && line.charAt(8) != ' ' ? "        " : "    ";
            boolean isHead = line.matches(gap + "[a-zA-Z].*\\{") && !line.matches(".*\\b(class|enum|if|for|while|switch)\\b.*");
            if (isHead) {
                int end = i;
                while (end < lines.length && !lines[end].equals(gap + "}")) {
                    end++;
                }
                int length = end - i + 1;
                Check.due("lines of " + line.strip(), true, () -> length <= MAX_METHOD_LINES);
            }
        }
    }

    private static List<Class<?>> classes() {
        List<Class<?>> all = new ArrayList<>();
        all.add(SubLedger.class);
        all.addAll(Arrays.asList(SubLedger.class.getDeclaredClasses()));
        Check.due("some twelve classes", true, () -> all.size() <= MAX_CLASSES);
        return all;
    }

    /** Rules 1, 2, 5 and 11. */
    private static void members(Class<?> one) {
        boolean isOuter = one == SubLedger.class;
        Check.due(one + " is private or package-visible, and static, if it is inside", true, () -> isOuter
                || Modifier.isStatic(one.getModifiers()) && !Modifier.isPublic(one.getModifiers())
                && !Modifier.isProtected(one.getModifiers()));
        Check.due("no class inside a class inside: " + one, true, () -> isOuter || one.getDeclaredClasses().length == 0);
        int fields = 0;
        for (Field field : one.getDeclaredFields()) {
            boolean isStatic = Modifier.isStatic(field.getModifiers());
            fields += isStatic ? 0 : 1;
            Check.due(field + " is final, if it is static", true, () -> !isStatic || Modifier.isFinal(field.getModifiers()));
        }
        int many = fields;
        Check.due("some twenty fields in " + one, true, () -> many <= MAX_FIELDS);
        methods(one);
    }

    private static void methods(Class<?> one) {
        Set<String> open = new TreeSet<>();
        Set<String> hidden = new TreeSet<>();
        for (Method method : SubLedger.class.getDeclaredMethods()) {
            if (Modifier.isPublic(method.getModifiers())) {
                open.add(method.getName());
            }
        }
        for (Method method : one.getDeclaredMethods()) {
            Check.due("parameters of " + method, true, () -> method.getParameterCount() <= MAX_PARAMETERS);
            if (Modifier.isPrivate(method.getModifiers()) && !method.isSynthetic()) {
                hidden.add(method.getName());
            }
        }
        hidden.retainAll(open);
        Check.due("private methods of " + one + " with a public one's name", Set.of(), () -> hidden);
    }
}
