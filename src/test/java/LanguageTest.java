import java.io.IOException;
import java.lang.reflect.Field;
import java.lang.reflect.Method;
import java.lang.reflect.Modifier;
import java.nio.file.Files;
import java.nio.file.Path;
import java.util.ArrayList;
import java.util.List;
import java.util.Set;
import java.util.TreeSet;
import java.util.regex.Matcher;
import java.util.regex.Pattern;

/** Those rules of LANGUAGE.md that can be seen from the words and the members. Runs where README.md is. */
public final class LanguageTest {
    private static final Set<String> EXCEPTIONS = Set.of("IllegalStateException", "IllegalArgumentException",
            "IndexOutOfBoundsException", "ArithmeticException", "UnsupportedOperationException", "NoSuchElementException",
            "RuntimeException");
    private static final Set<String> IMPORTS = Set.of("Arrays", "ArrayList", "List", "Iterator", "NoSuchElementException");
    private static final Set<String> OF_SYSTEM_AND_ARRAYS = Set.of("System.arraycopy", "Arrays.copyOf", "Arrays.copyOfRange",
            "Arrays.fill");
    // The arrow of a switch would be found as well as a lambda's; the program does without both.
    private static final String[] RULED_OUT = {
        "->", "::", "\\bfinally\\b", "\\bsynchronized\\b", "\\bassert\\b", "\\bvolatile\\b", "\\bstatic *\\{", "\\bThread\\b",
        "\\bRandom\\b", "\\bcurrentTimeMillis\\b", "\\bnanoTime\\b", "\\bSystem\\.(?!arraycopy)", "\\bgetMessage\\b", "Exact\\(",
        "\\b(hashCode|toString)\\(", "\\bpackage\\b",
    };

    public static void main(String[] args) throws IOException {
        Check check = new Check();
        String source = Files.readString(Path.of("src/main/java/BigRunner.java"));
        String code = source.replaceAll("(?s)/\\*.*?\\*/", "").replaceAll("//[^\n]*", "")
                .replaceAll("\"[^\"\n]*\"", "\"\"").replaceAll("'[^'\n]+'", "' '");
        List<Class<?>> classes = new ArrayList<>(List.of(BigRunner.class));
        classes.addAll(List.of(BigRunner.class.getDeclaredClasses()));
        names(check, classes);
        check.sentence("2, 4, 6, 13: no lambda, method reference, finally, clock, random source and the like");
        for (String word : RULED_OUT) {
            check.due(word + " is ruled out", Pattern.compile(word).matcher(code).find(), false);
        }
        library(check, code);
        exceptions(check, code);
        staticFields(check, classes);
        sizes(check, code, classes);
        check.end("LanguageTest");
    }

    private static void names(Check check, List<Class<?>> classes) {
        check.sentence("1. No private method bears the name of a public one");
        Set<String> face = new TreeSet<>();
        for (Method method : BigRunner.class.getDeclaredMethods()) {
            if (Modifier.isPublic(method.getModifiers())) {
                face.add(method.getName());
            }
        }
        check.due("methods of the face", face.size(), 10);
        for (Class<?> any : classes) {
            for (Method method : any.getDeclaredMethods()) {
                boolean isOfFace = any == BigRunner.class && Modifier.isPublic(method.getModifiers());
                check.due(any.getName() + "." + method.getName(), !isOfFace && face.contains(method.getName()), false);
            }
        }
    }

    private static void library(Check check, String code) {
        check.sentence("4. The library: only what stands here");
        Matcher imported = Pattern.compile("\\bimport ([^;]+);").matcher(code);
        while (imported.find()) {
            String name = imported.group(1);
            check.due("import " + name, name.startsWith("java.util.") && IMPORTS.contains(name.substring(10)), true);
        }
        Matcher used = Pattern.compile("\\b((?:System|Arrays)\\.\\w+)").matcher(code.replaceAll("\\bimport [^;]+;", ""));
        while (used.find()) {
            check.due(used.group(1), OF_SYSTEM_AND_ARRAYS.contains(used.group(1)), true);
        }
    }

    private static void exceptions(Check check, String code) {
        check.sentence("6. throw new E() or throw new E(\"a written text\")");
        Matcher thrown = Pattern.compile("\\bthrow\\b([^;]*);").matcher(code);
        while (thrown.find()) {
            Matcher made = Pattern.compile(" new (\\w+)\\((\"\")?\\)").matcher(thrown.group(1));
            check.due("throw" + thrown.group(1), made.matches() && EXCEPTIONS.contains(made.group(1)), true);
        }
    }

    private static void staticFields(Check check, List<Class<?>> classes) {
        check.sentence("5. Static fields are final");
        for (Class<?> any : classes) {
            for (Field field : any.getDeclaredFields()) {
                boolean isStatic = Modifier.isStatic(field.getModifiers());
                check.due(any.getName() + "." + field.getName(), !isStatic || Modifier.isFinal(field.getModifiers()), true);
            }
        }
    }

    private static void sizes(Check check, String code, List<Class<?>> classes) {
        check.sentence("11. A method takes at most seven parameters, some sixty lines, some twelve classes, some twenty fields");
        check.due(classes.size() + " classes", classes.size() <= 12, true);
        for (Class<?> any : classes) {
            int fields = 0;
            for (Field field : any.getDeclaredFields()) {
                fields += Modifier.isStatic(field.getModifiers()) ? 0 : 1;
            }
            check.due(any.getName() + " has " + fields + " fields", fields <= 20, true);
            check.due(any.getName() + " has none inside it", any == BigRunner.class ? 0 : any.getDeclaredClasses().length, 0);
            for (Method method : any.getDeclaredMethods()) {
                check.due(any.getName() + "." + method.getName() + " parameters", method.getParameterCount() <= 7, true);
            }
        }
        // A method begins with an indented line that ends in "(..) {", and ends with the next } that is indented alike.
        Matcher method = Pattern.compile("(?m)^( {4}| {8})\\w[^;={}]*\\)[^;={}]*\\{\n(?s:.*?)^\\1\\}").matcher(code);
        int methods = 0;
        while (method.find()) {
            methods++;
            long lines = method.group().lines().count();
            String head = method.group().lines().findFirst().orElse("").trim();
            check.due(lines + " lines of " + head, lines <= 60, true);
        }
        check.due("the methods are seen", methods >= 80, true);
    }
}
