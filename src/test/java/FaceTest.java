import java.lang.reflect.Constructor;
import java.lang.reflect.Field;
import java.lang.reflect.Method;
import java.lang.reflect.Modifier;
import java.nio.file.Files;
import java.nio.file.Path;
import java.util.Set;
import java.util.TreeSet;
import java.util.regex.Matcher;
import java.util.regex.Pattern;

/** The public face as the document writes it (rule 1 of LANGUAGE.md). */
public final class FaceTest {
    private static final Pattern METHOD = Pattern.compile("public (\\w+) (\\w+)\\((.*?)\\)(?: throws (.*?))?;");

    private FaceTest() {
    }

    public static void main(String[] args) throws Exception {
        Set<String> due = documented();
        Check.due("methods in the document", due.size(), 35);
        Check.due("the methods", String.join("\n", written()), String.join("\n", due));
        oneConstructorAndNothingElse();
        sectionsOfTheInterface();
        Check.end();
    }

    private static Set<String> documented() throws Exception {
        Set<String> all = new TreeSet<>();
        String text = Files.readString(Path.of("../shared/DOC.md"));
        text = text.substring(text.indexOf("```java"), text.indexOf("## Terms"));
        Matcher found = METHOD.matcher(text);
        while (found.find()) {
            StringBuilder types = new StringBuilder();
            for (String argument : found.group(3).split(", ")) {
                types.append(argument.split(" ")[0]).append(' ');
            }
            String exceptions = found.group(4) == null ? "" : found.group(4);
            all.add(found.group(2) + " " + found.group(1) + " " + types.toString().trim() + " " + exceptions);
        }
        return all;
    }

    private static Set<String> written() {
        Set<String> all = new TreeSet<>();
        for (Method method : Teethrow.class.getDeclaredMethods()) {
            if (Modifier.isPublic(method.getModifiers())) {
                StringBuilder types = new StringBuilder();
                for (Class<?> type : method.getParameterTypes()) {
                    types.append(type.getSimpleName()).append(' ');
                }
                StringBuilder exceptions = new StringBuilder();
                for (Class<?> type : method.getExceptionTypes()) {
                    exceptions.append(exceptions.length() == 0 ? "" : ", ").append(type.getSimpleName());
                }
                all.add(method.getName() + " " + method.getReturnType().getSimpleName() + " "
                        + types.toString().trim() + " " + exceptions);
            }
        }
        return all;
    }

    private static void oneConstructorAndNothingElse() {
        Check.due("final", Modifier.isFinal(Teethrow.class.getModifiers()), true);
        Check.due("public", Modifier.isPublic(Teethrow.class.getModifiers()), true);
        Constructor<?>[] made = Teethrow.class.getDeclaredConstructors();
        Check.due("constructors", made.length, 1);
        Check.due("public constructor", Modifier.isPublic(made[0].getModifiers()), true);
        Check.due("constructor's arguments", made[0].getParameterCount(), 0);
        Set<String> names = new TreeSet<>();
        for (Method method : Teethrow.class.getDeclaredMethods()) {
            if (Modifier.isPublic(method.getModifiers())) {
                names.add(method.getName());
            }
        }
        for (Method method : Teethrow.class.getDeclaredMethods()) {
            if (!Modifier.isPublic(method.getModifiers())) {
                Check.due(method + " is private", Modifier.isPrivate(method.getModifiers()), true);
                Check.due(method + " has a name of its own", names.contains(method.getName()), false);
            }
        }
        for (Field field : Teethrow.class.getDeclaredFields()) {
            Check.due(field + " is private", Modifier.isPrivate(field.getModifiers()), true);
            if (Modifier.isStatic(field.getModifiers())) {
                Check.due(field + " is final", Modifier.isFinal(field.getModifiers()), true);
            }
        }
    }

    /** "Ahead of the calls .. the interface says: ---- ..", for each of its four parts, in the order of the document. */
    private static void sectionsOfTheInterface() throws Exception {
        String text = Files.readString(Path.of("../shared/DOC.md"));
        String source = Files.readString(Path.of("src/main/java/Teethrow.java"));
        Matcher part = Pattern.compile("Ahead of the calls (.*?) the interface says: (---- .*)\\.\n").matcher(text);
        int at = 0;
        int calls = 0;
        while (part.find()) {
            int head = source.indexOf("// " + part.group(2) + "\n");
            Check.due(part.group(2) + " comes next", head > at, true);
            at = head;
            Matcher name = Pattern.compile("`(\\w+)`").matcher(part.group(1));
            while (name.find()) {
                Matcher call = Pattern.compile("public \\w+ " + name.group(1) + "\\(").matcher(source);
                Check.due(name.group(1) + " stands there", call.find(at), true);
                boolean next = source.substring(at, call.start()).indexOf("\n    // ----") < 0;
                Check.due(name.group(1) + " comes next", next, true);
                at = call.start();
                calls++;
            }
        }
        Check.due("calls behind the heads", calls, 35);
    }
}
