import java.io.IOException;
import java.lang.reflect.Executable;
import java.lang.reflect.Field;
import java.lang.reflect.Method;
import java.lang.reflect.Modifier;
import java.nio.file.Files;
import java.nio.file.Path;
import java.util.Arrays;
import java.util.Set;
import java.util.TreeSet;
import java.util.regex.Matcher;
import java.util.regex.Pattern;

/** Those rules of ../shared/LANGUAGE.md that a program can look at; it runs in the project's directory. */
public final class LanguageTests {
    private static final String[] FACE = {"set(int,int)", "delay(int,int)", "clock()", "pass(int)", "read()", "latch()",
        "of(int,int)", "reading(int,int)", "seen(int,int)", "count(int)", "stillIn()", "showsIn(int)", "wrong(int)",
        "safeGap()", "toBlame(int)", "put(long)", "wipe()", "fault()", "carryOut()", "undo()", "save(int)",
        "restore(int)"};
    private static final String[] CONSTANTS = {"NO_SUCH", "BAD_VALUE", "BAD_TEXT", "TOO_MANY", "NOT_POSSIBLE", "NONE",
        "STAGES", "HOLD"};
    private static final Set<String> LIBRARY = Set.of("System.arraycopy", "Arrays.fill", "Math.min", "Math.max");

    public static void main(String[] args) throws IOException {
        String source = Files.readString(Path.of("src/main/java/RippleCounts.java"));
        face();
        nested();
        words(source);
        library(source);
        Due.end();
    }

    private static void hold(String what, boolean holds) {
        Due.is(what, 1, holds ? 1 : 0);
    }

    private static void face() {
        Set<String> methods = new TreeSet<>();
        for (Method method : RippleCounts.class.getDeclaredMethods()) {
            if (!Modifier.isPrivate(method.getModifiers())) {
                hold("public: " + method, Modifier.isPublic(method.getModifiers()));
                hold("answers int: " + method, method.getReturnType() == int.class);
                methods.add(method.getName() + parameters(method));
            } else {
                noNameOfTheFace(method);
            }
            hold("at most seven parameters: " + method, method.getParameterCount() <= 7);
        }
        hold("the face's methods: " + methods, methods.equals(new TreeSet<>(Arrays.asList(FACE))));
        Set<String> constants = new TreeSet<>();
        for (Field field : RippleCounts.class.getDeclaredFields()) {
            if (!Modifier.isPrivate(field.getModifiers())) {
                constants.add(field.getName());
            }
            hold("final or an object's own: " + field, !Modifier.isStatic(field.getModifiers())
                || Modifier.isFinal(field.getModifiers()));
        }
        hold("the face's constants: " + constants, constants.equals(new TreeSet<>(Arrays.asList(CONSTANTS))));
        hold("one constructor", RippleCounts.class.getDeclaredConstructors().length == 1);
        hold("the class is public and final", (RippleCounts.class.getModifiers() & (Modifier.PUBLIC | Modifier.FINAL))
            == (Modifier.PUBLIC | Modifier.FINAL));
    }

    private static String parameters(Executable executable) {
        StringBuilder text = new StringBuilder();
        for (Class<?> type : executable.getParameterTypes()) {
            text.append(text.length() == 0 ? "" : ",").append(type.getName());
        }
        return "(" + text + ")";
    }

    private static void nested() {
        Class<?>[] classes = RippleCounts.class.getDeclaredClasses();
        hold("at most twelve classes", classes.length < 12);
        for (Class<?> inside : classes) {
            hold("static and not public: " + inside, Modifier.isStatic(inside.getModifiers())
                && !Modifier.isPublic(inside.getModifiers()) && !Modifier.isProtected(inside.getModifiers()));
            int fields = 0;
            for (Field field : inside.getDeclaredFields()) {
                fields += Modifier.isStatic(field.getModifiers()) ? 0 : 1;
            }
            hold("at most twenty fields: " + inside, fields <= 20);
            for (Method method : inside.getDeclaredMethods()) {
                noNameOfTheFace(method);
                hold("at most seven parameters: " + method, method.getParameterCount() <= 7);
            }
        }
    }

    private static void noNameOfTheFace(Method method) {
        for (String open : FACE) {
            hold("no name of the face: " + method, !open.startsWith(method.getName() + "("));
        }
    }

    private static String withoutComments(String source) {
        return source.replaceAll("(?s)/\\*.*?\\*/", " ").replaceAll("//[^\n]*", " ");
    }

    /** What a class of the library is asked for: the program uses less of it than the rules leave. */
    private static void library(String source) {
        Matcher call = Pattern.compile("\\b(System|Arrays|Math|Integer|Long|String|List|Character)\\s*\\.\\s*(\\w+)")
            .matcher(withoutComments(source).replaceAll("import[^;]*;", " "));
        while (call.find()) {
            String name = call.group(1) + "." + call.group(2);
            hold("of the library: " + name, LIBRARY.contains(name));
        }
    }

    private static void words(String source) {
        String code = withoutComments(source);
        String[] banned = {"throw", "throws", "try", "catch", "finally", "synchronized", "assert", "Exception", "volatile",
            "transient", "native", "System\\.(?!arraycopy)", "->", "::", "package", "hashCode", "toString",
            "Math\\.\\w*Exact"};
        for (String word : banned) {
            Matcher matcher = Pattern.compile(word.matches("\\w+") ? "\\b" + word + "\\b" : word).matcher(code);
            hold("not in the program: " + word, !matcher.find());
        }
        Matcher imports = Pattern.compile("import\\s+([^;]+);").matcher(code);
        while (imports.find()) {
            hold("import " + imports.group(1), Set.of("java.util.Arrays", "java.util.ArrayList", "java.util.List",
                "java.util.Iterator").contains(imports.group(1)));
        }
        hold("no text but that of keyboards", source.chars().allMatch(c -> c == '\n' || c >= 32 && c < 127));
    }
}
