import java.io.IOException;
import java.lang.reflect.Constructor;
import java.lang.reflect.Field;
import java.lang.reflect.Method;
import java.lang.reflect.Modifier;
import java.nio.file.Files;
import java.nio.file.Path;
import java.util.HashSet;
import java.util.List;
import java.util.Set;
import java.util.TreeSet;
import java.util.regex.Matcher;
import java.util.regex.Pattern;

/** The public face of the document, and those rules of LANGUAGE.md that can be looked up. */
public final class LanguageTest {
    private static final Path SOURCE = Path.of("src/main/java/Blueline.java");
    private static final Path DOCUMENT = Path.of("../shared/DOC.md");

    public static void main(String[] args) throws IOException {
        String source = Files.readString(SOURCE);
        face();
        names();
        members(source);
        words(source);
        Hall.end("LanguageTest");
    }

    // Rule 1: the face is that of the document.
    private static void face() throws IOException {
        Set<String> due = new TreeSet<>();
        Matcher matcher = Pattern.compile("^    public (\\w+) (\\w+)\\((.*?)\\)", Pattern.MULTILINE)
                .matcher(Files.readString(DOCUMENT));
        while (matcher.find()) {
            String types = matcher.group(3).replaceAll("(\\w+) \\w+", "$1").replace(" ", "");
            due.add(matcher.group(1) + " " + matcher.group(2) + "(" + types + ")");
        }
        Set<String> got = new TreeSet<>();
        for (Method method : Blueline.class.getDeclaredMethods()) {
            if (!Modifier.isPrivate(method.getModifiers()) && !method.isSynthetic()) {
                StringBuilder types = new StringBuilder();
                for (Class<?> type : method.getParameterTypes()) {
                    types.append(types.length() == 0 ? "" : ",").append(type.getName());
                }
                got.add(method.getReturnType().getName() + " " + method.getName() + "(" + types + ")");
            }
        }
        Hall.due("public methods", got, due);
        Hall.due("64 methods", got.size(), 64);
        Hall.due("public and final", Modifier.isPublic(Blueline.class.getModifiers())
                && Modifier.isFinal(Blueline.class.getModifiers()), true);
    }

    // Rule 1: no private method bears the name of a public one, also in the classes inside.
    private static void names() {
        Set<String> names = new HashSet<>();
        for (Method method : Blueline.class.getMethods()) {
            names.add(method.getName());
        }
        for (Method method : Blueline.class.getDeclaredMethods()) {
            if (Modifier.isPrivate(method.getModifiers())) {
                Hall.due("name of " + method, names.contains(method.getName()), false);
            }
        }
        for (Class<?> inside : Blueline.class.getDeclaredClasses()) {
            Hall.due("private static " + inside, inside.getModifiers()
                    & (Modifier.PRIVATE | Modifier.STATIC | Modifier.PUBLIC), Modifier.PRIVATE | Modifier.STATIC);
            for (Method method : inside.getDeclaredMethods()) {
                Hall.due("name of " + method, names.contains(method.getName()), false);
                Hall.due("private " + method, Modifier.isPrivate(method.getModifiers()), true);
                Hall.due("parameters of " + method, method.getParameterCount() <= 7, true);
            }
            for (Constructor<?> made : inside.getDeclaredConstructors()) {
                Hall.due("private " + made, Modifier.isPrivate(made.getModifiers()) || made.isSynthetic(), true);
            }
        }
    }

    // Rules 1, 5 and 11: fields are private, static ones final, and a class has some twenty of them.
    private static void members(String source) {
        Class<?>[] inside = Blueline.class.getDeclaredClasses();
        Hall.due("some twelve classes", inside.length + 1 <= 12, true);
        for (int i = -1; i < inside.length; i++) {
            int fields = 0;
            for (Field field : (i < 0 ? Blueline.class : inside[i]).getDeclaredFields()) {
                int modifiers = field.getModifiers();
                Hall.due("private " + field, Modifier.isPrivate(modifiers), true);
                Hall.due("final " + field, Modifier.isFinal(modifiers) || !Modifier.isStatic(modifiers), true);
                fields += Modifier.isStatic(modifiers) ? 0 : 1;
            }
            Hall.due("some twenty fields", fields <= 20, true);
        }
        Matcher matcher = Pattern.compile("\\n(        |    )(private|public) [^;=]*?\\{\\n(.*?)\\n\\1\\}", Pattern.DOTALL)
                .matcher(source);
        while (matcher.find()) {
            String body = matcher.group(3);
            if (!matcher.group().contains(" class ")) {
                Hall.due("a short method " + matcher.group().substring(0, 60), body.split("\n").length <= 60, true);
            }
        }
    }

    // Rules 2 to 6 and 12 to 13: words that do not stand in the program.
    private static void words(String source) {
        String code = source.replaceAll("//.*", "").replaceAll("(?s)/\\*.*?\\*/", "");
        List<String> banned = List.of("->", "::", "finally", "synchronized", "assert", "interface ", "hashCode",
            "toString", "equals(", "Exact", "System.out", "System.current", "System.nano", "Random", "Thread",
            "catch", "while (true)", "\" +", "+ \"", "List", "Object", "float[]", "package ", "static {");
        for (String word : banned) {
            Hall.due("'" + word + "' stands in the program", code.contains(word), false);
        }
        Matcher imports = Pattern.compile("import ([^;]*);").matcher(code);
        while (imports.find()) {
            Hall.due("import", (Object) imports.group(1), "java.util.NoSuchElementException");
        }
        for (int i = 0; i < source.length(); i++) {
            char sign = source.charAt(i);
            if (sign != '\n' && (sign < 32 || sign > 126)) {
                Hall.due("a sign of the program", sign, ' ');
            }
        }
    }
}
