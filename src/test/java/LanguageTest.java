import java.lang.reflect.Constructor;
import java.lang.reflect.Field;
import java.lang.reflect.Method;
import java.lang.reflect.Modifier;
import java.nio.file.Files;
import java.nio.file.Path;
import java.util.ArrayList;
import java.util.List;
import java.util.Set;
import java.util.regex.Matcher;
import java.util.regex.Pattern;

/** The rules of ../shared/LANGUAGE.md that the source or the compiled class shows, by their numbers. */
public final class LanguageTest {
    private static final Set<String> TYPES = Set.of("void", "int", "long", "char", "boolean", "float", "double",
            "int[]", "Tool", "Tool[]", "Order", "Order[]", "Row");
    private static final Set<String> CONSTANTS = Set.of("int", "long", "boolean", "char", "String");
    private static final Set<String> LIBRARY = Set.of("Math.max", "Math.min", "System.arraycopy");
    private static final Set<String> EXCEPTIONS = Set.of("IllegalStateException", "IllegalArgumentException",
            "IndexOutOfBoundsException", "ArithmeticException", "UnsupportedOperationException",
            "NoSuchElementException");
    /** Words that the rules forbid, and a few that they bind so much that the class does without. */
    private static final List<String> RULED_OUT = List.of("->", "::", "Exact", "catch", "try ", "finally",
            "synchronized", "assert ", "package ", "System.out", "System.nano", "System.current", "Random", "Thread",
            "getMessage", "NaN", "hashCode", "while (true", "for (;;", "static {", "\" +", "+ \"");

    private LanguageTest() {
    }

    public static void main(String[] args) throws Exception {
        String source = Files.readString(Path.of("src/main/java/Teethrow.java"));
        String code = withoutComments(source);
        oneFile();
        words(source, code);
        library(code);
        exceptions(code);
        lengths(source);
        for (Class<?> one : classes()) {
            members(one);
        }
        Check.end();
    }

    private static String withoutComments(String source) {
        return source.replaceAll("(?s)/\\*.*?\\*/", "").replaceAll("//[^\n]*", "");
    }

    private static List<Class<?>> classes() {
        List<Class<?>> all = new ArrayList<>();
        all.add(Teethrow.class);
        all.addAll(List.of(Teethrow.class.getDeclaredClasses()));
        return all;
    }

    /** The head of the rules, 2 and 11: one file, some twelve classes, those inside static and not public. */
    private static void oneFile() throws Exception {
        try (var files = Files.walk(Path.of("src/main"))) {
            Check.due("files", files.filter(Files::isRegularFile).count(), 1);
        }
        Check.due("at most twelve classes", classes().size() <= 12, true);
        for (Class<?> inside : Teethrow.class.getDeclaredClasses()) {
            int how = inside.getModifiers();
            Check.due(inside + " is static", Modifier.isStatic(how), true);
            Check.due(inside + " is not public", Modifier.isPublic(how) || Modifier.isProtected(how), false);
            Check.due("classes inside " + inside, inside.getDeclaredClasses().length, 0);
        }
    }

    /** Rules 2, 5, 6, 9, 10 and 13, as far as a word breaks them. */
    private static void words(String source, String code) {
        for (String word : RULED_OUT) {
            Check.due("the source holds " + word, code.contains(word), false);
        }
        for (int i = 0; i < source.length(); i++) {
            if (source.charAt(i) > 126) {
                Check.due("sign at " + i, source.charAt(i), 126);
            }
        }
    }

    /** Rule 4: the one import, and no more of the library than what is used here. */
    private static void library(String code) {
        Matcher imports = Pattern.compile("import ([^;]*);").matcher(code);
        while (imports.find()) {
            Check.due("import", imports.group(1), "java.util.NoSuchElementException");
        }
        Matcher uses = Pattern.compile("\\b[A-Z]\\w*[a-z]\\w*\\.\\w+").matcher(code);
        while (uses.find()) {
            Check.due("the library holds " + uses.group(), LIBRARY.contains(uses.group()), true);
        }
    }

    /** Rule 6: a throw makes one of the exceptions that are allowed, with a written text. */
    private static void exceptions(String code) {
        Matcher all = Pattern.compile("\\bthrow\\b([^;]*);").matcher(code);
        int found = 0;
        while (all.find()) {
            Matcher one = Pattern.compile(" new (\\w+)\\(\"[^\"]*\"\\)").matcher(all.group(1));
            boolean fits = one.matches() && EXCEPTIONS.contains(one.group(1));
            Check.due("throw" + all.group(1), fits, true);
            found++;
        }
        Check.due("there are throws", found > 0, true);
        Matcher made = Pattern.compile("\\b(?:Teethrow|Tool|Order|Row)\\([^)]*\\) \\{([^}]*)\\}").matcher(code);
        int constructors = 0;
        while (made.find()) {
            Check.due("a constructor throws", made.group(1).contains("throw"), false);
            constructors++;
        }
        Check.due("constructors", constructors, 4);
    }

    /** Rule 11: methods of some sixty lines. */
    private static void lengths(String source) {
        Matcher bodies = Pattern.compile("(?s)\n( {4,8})(?! )[^\n;=]*\\([^;{]*\\{\n(.*?)\n\\1\\}").matcher(source);
        int found = 0;
        while (bodies.find()) {
            Check.due("lines", bodies.group(2).lines().count() <= 60, true);
            found++;
        }
        Check.due("methods are found", found >= 60, true);
    }

    /** Rules 3, 5 and 11: types, statics that are constants, some twenty fields, at most seven parameters. */
    private static void members(Class<?> of) {
        int fields = 0;
        for (Field field : of.getDeclaredFields()) {
            String type = field.getType().getSimpleName();
            if (Modifier.isStatic(field.getModifiers())) {
                Check.due(field + " is final", Modifier.isFinal(field.getModifiers()), true);
                Check.due(field + " is a constant", CONSTANTS.contains(type), true);
            } else {
                Check.due(field + " is of a type that is allowed", TYPES.contains(type), true);
                fields++;
            }
        }
        Check.due("at most twenty fields of " + of, fields <= 20, true);
        for (Method method : of.getDeclaredMethods()) {
            Check.due(method + " is written", method.isSynthetic(), false);
            Check.due(method + " answers what is allowed", TYPES.contains(method.getReturnType().getSimpleName()), true);
            parameters(method.toString(), method.getParameterTypes());
        }
        for (Constructor<?> made : of.getDeclaredConstructors()) {
            parameters(made.toString(), made.getParameterTypes());
        }
    }

    private static void parameters(String what, Class<?>[] types) {
        Check.due("at most seven for " + what, types.length <= 7, true);
        for (Class<?> type : types) {
            Check.due(what + " takes what is allowed", TYPES.contains(type.getSimpleName()), true);
        }
    }
}
