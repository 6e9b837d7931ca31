import java.io.IOException;
import java.lang.reflect.Constructor;
import java.lang.reflect.Field;
import java.lang.reflect.Method;
import java.lang.reflect.Modifier;
import java.nio.charset.StandardCharsets;
import java.nio.file.Files;
import java.nio.file.Path;
import java.util.Set;
import java.util.TreeSet;
import java.util.regex.Matcher;
import java.util.regex.Pattern;

/** The face of the document, and what of ../shared/LANGUAGE.md can be seen in the program's text. */
public final class LanguageTest {
    private static final Checks CHECKS = new Checks("LanguageTest");
    private static final Path SOURCE = Path.of("src/main/java/TracedSums.java");
    private static final Set<String> FACE = Set.of(
        "int given(long,boolean)", "int node(int,int)", "int lift(int,long)", "int norm(int)", "int part(int,int)",
        "int holds(int,boolean)", "double value(int) throws ArrayIndexOutOfBoundsException",
        "double factor(int) throws ArrayIndexOutOfBoundsException ClassCastException",
        "int packed(int,int) throws ArrayIndexOutOfBoundsException ClassCastException", "int told(int,int)",
        "int input(int,int)", "int turned(int)", "int explain(int)", "int line(int,int)",
        "int text(int,int) throws ArrayIndexOutOfBoundsException", "int language(int)", "int compare(int,int)",
        "int parts(int,int)", "int about(int)", "int clear()");
    private static final Set<String> CONSTANTS = Set.of("NONE", "UNKNOWN", "OUTSIDE", "FULL", "STATE");
    private static final String[] FORBIDDEN = {
        "->", "::", "\\bcatch\\b", "\\btry\\b", "\\bfinally\\b", "\\bsynchronized\\b", "\\bassert\\b", "\\bpackage\\b",
        "\\bstatic \\{", "\\bDouble\\.", "\\bFloat\\.", "\\bSystem\\.(?!arraycopy)", "\\bThread\\b", "\\bRandom\\b",
        "\\bObject\\b", "\\bMap\\b", "\\bgetMessage\\b", "\\bextends Exception\\b", "Exact\\(", "\\bordinal\\(",
        "\\.hashCode\\(", "\\.toString\\(", "\\bString\\.", "\\bvar\\b", "\\bprotected\\b"
    };

    public static void main(String[] args) throws IOException {
        face();
        classesInside();
        text();
        CHECKS.end();
    }

    private static void face() {
        int modifiers = TracedSums.class.getModifiers();
        CHECKS.isTrue("public and final", Modifier.isPublic(modifiers) && Modifier.isFinal(modifiers));
        Set<String> methods = new TreeSet<>();
        for (Method method : TracedSums.class.getDeclaredMethods()) {
            if (!Modifier.isPrivate(method.getModifiers()) && !method.isSynthetic()) {
                methods.add(shape(method));
            }
        }
        CHECKS.sameText("the methods", methods.toString(), new TreeSet<>(FACE).toString());
        Set<String> fields = new TreeSet<>();
        for (Field field : TracedSums.class.getDeclaredFields()) {
            if (!Modifier.isPrivate(field.getModifiers()) && !field.isSynthetic()) {
                fields.add(field.getName());
            }
        }
        CHECKS.sameText("the constants", fields.toString(), new TreeSet<>(CONSTANTS).toString());
        Constructor<?>[] constructors = TracedSums.class.getDeclaredConstructors();
        CHECKS.same("constructors", constructors.length, 1);
        CHECKS.same("its parameters", constructors[0].getParameterCount(), 0);
    }

    private static String shape(Method method) {
        StringBuilder shape = new StringBuilder(method.getReturnType().getSimpleName());
        shape.append(' ').append(method.getName()).append('(');
        for (int i = 0; i < method.getParameterCount(); i++) {
            shape.append(i == 0 ? "" : ",").append(method.getParameterTypes()[i].getSimpleName());
        }
        shape.append(')');
        for (int i = 0; i < method.getExceptionTypes().length; i++) {
            shape.append(i == 0 ? " throws " : " ").append(method.getExceptionTypes()[i].getSimpleName());
        }
        return shape.toString();
    }

    private static void classesInside() {
        Class<?>[] inside = TracedSums.class.getDeclaredClasses();
        CHECKS.isTrue("some twelve classes", inside.length <= 12);
        Set<String> names = new TreeSet<>();
        for (Method method : TracedSums.class.getDeclaredMethods()) {
            names.add(method.getName());
        }
        for (Class<?> one : inside) {
            CHECKS.isTrue(one.getName() + " is static", Modifier.isStatic(one.getModifiers()));
            CHECKS.isTrue(one.getName() + " is not public", !Modifier.isPublic(one.getModifiers()));
            CHECKS.isTrue(one.getName() + " has some twenty fields", one.getDeclaredFields().length <= 20);
            for (Method method : one.getDeclaredMethods()) {
                CHECKS.isTrue("no method of the face inside: " + method.getName(), !names.contains(method.getName()));
                CHECKS.isTrue("seven parameters", method.getParameterCount() <= 7);
            }
            for (Field field : one.getDeclaredFields()) {
                int modifiers = field.getModifiers();
                CHECKS.isTrue("static " + field, !Modifier.isStatic(modifiers) || Modifier.isFinal(modifiers));
            }
        }
    }

    private static void text() throws IOException {
        String source = Files.readString(SOURCE, StandardCharsets.UTF_8);
        for (int i = 0; i < source.length(); i++) {
            char sign = source.charAt(i);
            CHECKS.isTrue("sign " + (int) sign, sign == '\n' || sign >= 32 && sign < 127);
        }
        String code = source.replaceAll("(?s)/\\*.*?\\*/", "").replaceAll("//[^\n]*", "");
        for (String forbidden : FORBIDDEN) {
            CHECKS.isTrue("the program has " + forbidden, !Pattern.compile(forbidden).matcher(code).find());
        }
        matchesOnly(code, "import [^;]*;", "import java\\.util\\.(ArrayList|Arrays);");
        matchesOnly(code, "\\bMath\\.\\w+", "Math\\.max");
        matchesOnly(code, "\\bLong\\.\\w+", "Long\\.bitCount");
        matchesOnly(code, "\\bArrays\\.\\w+", "Arrays\\.fill");
        matchesOnly(code, "\\bthrow\\b[^;]*;",
            "throw new (ArrayIndexOutOfBoundsException|ClassCastException)\\(\\);");
    }

    private static void matchesOnly(String code, String found, String allowed) {
        Matcher matcher = Pattern.compile(found).matcher(code);
        while (matcher.find()) {
            CHECKS.isTrue("the program has " + matcher.group(), matcher.group().matches(allowed));
        }
    }
}
