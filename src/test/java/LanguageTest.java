import java.io.IOException;
import java.lang.reflect.Constructor;
import java.lang.reflect.Field;
import java.lang.reflect.Method;
import java.lang.reflect.Modifier;
import java.nio.file.Files;
import java.nio.file.Path;
import java.util.Set;
import java.util.TreeSet;
import java.util.regex.Matcher;
import java.util.regex.Pattern;

/** The rules of LANGUAGE.md, and the public face, as far as words and reflection show them. */
public final class LanguageTest {
    private static final String SOURCE = "src/main/java/BridgeLegs.java";
    private static final Set<String> FACE = Set.of("int set(int,int)", "int setLoad(int,int,int)", "int command(int,int)",
        "int chop(int,int)", "int go(int)", "int clear(int,int)", "int undo()", "long count(int)", "int leg(int,int)",
        "int load(int,int)", "int fault(int,int,int)", "int scope(int,int)", "int until(int,int)", "int ifGo(int,int)",
        "int type(int)", "int clearText()", "int wrong()", "int play()", "int playing()");
    private static final Set<String> CONSTANTS = Set.of("INVALID_ARGUMENT", "NOT_POSSIBLE", "LIMIT_REACHED", "NOT_FOUND");
    private static final Set<String> FORBIDDEN = Set.of("package", "import", "throw", "throws", "try", "catch", "finally",
        "synchronized", "assert", "volatile", "transient", "native", "strictfp", "var", "yield", "Object", "Exception",
        "Throwable", "Random", "Thread", "currentTimeMillis", "nanoTime", "getClass", "hashCode", "toString");

    public static void main(String[] args) throws IOException {
        face();
        classesInside();
        String source = Files.readString(Path.of(SOURCE));
        words(bare(source));
        methodsAreShort(source);
        Check.end();
    }

    private static void face() {
        Set<String> methods = new TreeSet<>();
        Set<String> names = new TreeSet<>();
        for (Method method : BridgeLegs.class.getDeclaredMethods()) {
            if (Modifier.isPublic(method.getModifiers())) {
                methods.add(signature(method));
                names.add(method.getName());
            }
        }
        Check.due("public methods are the face: " + methods, methods.equals(FACE) ? 1 : 0, 1);
        for (Method method : BridgeLegs.class.getDeclaredMethods()) {
            if (!Modifier.isPublic(method.getModifiers())) {
                Check.due(method + " is private", Modifier.isPrivate(method.getModifiers()) ? 1 : 0, 1);
                Check.due(method + " has a name of its own", names.contains(method.getName()) ? 1 : 0, 0);
            }
        }
        for (Field field : BridgeLegs.class.getDeclaredFields()) {
            boolean constant = CONSTANTS.contains(field.getName());
            int modifiers = field.getModifiers();
            Check.due(field + " is public or not", Modifier.isPublic(modifiers) ? 1 : 0, constant ? 1 : 0);
            Check.due(field + " is private or not", Modifier.isPrivate(modifiers) ? 1 : 0, constant ? 0 : 1);
        }
        Constructor<?>[] constructors = BridgeLegs.class.getDeclaredConstructors();
        Check.due("constructors", constructors.length, 1);
        Check.due("parameters of it", constructors[0].getParameterCount(), 0);
        Check.due("it is public", Modifier.isPublic(constructors[0].getModifiers()) ? 1 : 0, 1);
        int modifiers = BridgeLegs.class.getModifiers();
        Check.due("public and final", Modifier.isPublic(modifiers) && Modifier.isFinal(modifiers) ? 1 : 0, 1);
    }

    private static String signature(Method method) {
        StringBuilder text = new StringBuilder(method.getReturnType().getName());
        text.append(' ').append(method.getName()).append('(');
        for (Class<?> type : method.getParameterTypes()) {
            text.append(text.charAt(text.length() - 1) == '(' ? "" : ",").append(type.getName());
        }
        return text.append(')').toString();
    }

    private static void classesInside() {
        Class<?>[] classes = BridgeLegs.class.getDeclaredClasses();
        Check.due("at most twelve classes", classes.length + 1 <= 12 ? 1 : 0, 1);
        staticFieldsAreFinal(BridgeLegs.class);
        for (Class<?> inside : classes) {
            int modifiers = inside.getModifiers();
            Check.due(inside + " is static", Modifier.isStatic(modifiers) ? 1 : 0, 1);
            Check.due(inside + " is not public", Modifier.isPublic(modifiers) || Modifier.isProtected(modifiers) ? 1 : 0, 0);
            staticFieldsAreFinal(inside);
            methodsInside(inside);
            long fields = 0;
            for (Field field : inside.getDeclaredFields()) {
                fields += Modifier.isStatic(field.getModifiers()) ? 0 : 1;
            }
            Check.due(inside + " has at most twenty fields", fields <= 20 ? 1 : 0, 1);
        }
    }

    private static void methodsInside(Class<?> inside) {
        Check.due(inside + " has no class inside", inside.getDeclaredClasses().length, 0);
        for (Method method : inside.getDeclaredMethods()) {
            boolean named = FACE.stream().anyMatch(call -> call.contains(" " + method.getName() + "("));
            Check.due(method + " has a name of its own", named ? 1 : 0, 0);
            Check.due(method + " has at most seven parameters", method.getParameterCount() <= 7 ? 1 : 0, 1);
        }
    }

    /** Each method and constructor in some sixty lines: from a head, told by its depth, to its closing brace. */
    private static void methodsAreShort(String source) {
        String head = "";
        int lines = 0;
        int methods = 0;
        for (String line : source.split("\n")) {
            boolean begins = line.matches("( {4}){1,2}[A-Za-z].*\\) \\{") && !line.matches(" *(if|for|while|switch) .*");
            if (begins && head.isEmpty()) {
                head = line;
                lines = 0;
                methods++;
            }
            lines++;
            String end = head.replaceAll("\\S.*", "}");
            if (!head.isEmpty() && line.equals(end)) {
                Check.due(head.trim() + " has " + lines + " lines", lines <= 60 ? 1 : 0, 1);
                head = "";
            }
        }
        Check.due("methods are found", methods >= FACE.size() ? 1 : 0, 1);
        Check.due("each has an end", head.isEmpty() ? 1 : 0, 1);
    }

    private static void staticFieldsAreFinal(Class<?> type) {
        for (Field field : type.getDeclaredFields()) {
            if (Modifier.isStatic(field.getModifiers())) {
                Check.due(field + " is final", Modifier.isFinal(field.getModifiers()) ? 1 : 0, 1);
            }
        }
    }

    /** The source without its comments and without what stands in quotes. */
    private static String bare(String source) {
        return source.replaceAll("(?s)/\\*.*?\\*/", " ").replaceAll("//[^\n]*", " ")
            .replaceAll("'(\\\\.|[^'\\\\])'", "' '").replaceAll("\"(\\\\.|[^\"\\\\])*\"", "\"\"");
    }

    private static void words(String source) {
        Matcher words = Pattern.compile("[A-Za-z_][A-Za-z_0-9]*").matcher(source);
        while (words.find()) {
            if (FORBIDDEN.contains(words.group())) {
                Check.due("the word " + words.group(), 1, 0);
            }
        }
        Check.due("lambdas or method references", source.contains("->") || source.contains("::") ? 1 : 0, 0);
        Matcher library = Pattern.compile("\\b(Math|System|Arrays|Integer|Long|String|StringBuilder)\\b(\\.[a-z][A-Za-z]*)?").matcher(source);
        Set<String> allowed = Set.of("Math.abs", "Math.max", "Math.min", "Math.floorMod", "System.arraycopy");
        while (library.find()) {
            Check.due("the library's " + library.group(), allowed.contains(library.group()) ? 0 : 1, 0);
        }
    }
}
