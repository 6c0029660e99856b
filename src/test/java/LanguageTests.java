import java.io.IOException;
import java.lang.reflect.Field;
import java.lang.reflect.Method;
import java.lang.reflect.Modifier;
import java.nio.charset.StandardCharsets;
import java.nio.file.Files;
import java.nio.file.Path;
import java.util.ArrayList;
import java.util.List;
import java.util.Set;
import java.util.TreeSet;
import java.util.regex.Matcher;
import java.util.regex.Pattern;

/** The rules of LANGUAGE.md that can be seen from the source, or by reflection. */
final class LanguageTests {
    private static final Path SOURCE = Path.of("src", "main", "java", "Sortpocket.java");
    private static final int FACE_METHODS = 30;
    private static final String HEADER =
        " +((public|private|static) )*(?!return|throw|else|new|case)[A-Za-z\\[\\]]+ [a-z]\\w*\\([^=;]*";
    private static final String[] RULED_OUT = {"import", "package", "synchronized", "assert", "finally", "native",
        "volatile", "transient", "protected", "strictfp", "var", "equals", "hashCode", "catch"};
    private static final Set<String> LIBRARY = Set.of("String", "StringBuilder", "Math", "IllegalArgumentException",
        "IllegalStateException", "IndexOutOfBoundsException");

    private final Tests tests;

    LanguageTests(Tests tests) {
        this.tests = tests;
    }

    void all() {
        String source;
        try {
            source = Files.readString(SOURCE, StandardCharsets.ISO_8859_1);
        } catch (IOException e) {
            tests.same("the source can be read", e.toString(), "");
            return;
        }
        String code = source.replaceAll("(?s)/\\*.*?\\*/", "").replaceAll("//[^\n]*", "")
            .replaceAll("\"[^\"\n]*\"", "\"\"");
        tests.same("signs beyond 127", source.chars().anyMatch(sign -> sign > 127), false);
        tests.same("lambdas", code.contains("->"), false);
        tests.same("method references", code.contains("::"), false);
        for (String word : RULED_OUT) {
            tests.same("the word " + word, Pattern.compile("\\b" + word + "\\b").matcher(code).find(), false);
        }
        names(code);
        methods(code);
        classes();
    }

    /** What begins with a capital letter is a class of the file, a constant, or of the library. */
    private void names(String code) {
        Set<String> own = new TreeSet<>();
        own.add("Sortpocket");
        for (Class<?> inside : Sortpocket.class.getDeclaredClasses()) {
            own.add(inside.getSimpleName());
        }
        Set<String> others = new TreeSet<>();
        Matcher matcher = Pattern.compile("\\b[A-Z]\\w*").matcher(code);
        while (matcher.find()) {
            String name = matcher.group();
            if (!name.matches("[A-Z_]+") && !own.contains(name) && !LIBRARY.contains(name)) {
                others.add(name);
            }
        }
        tests.same("classes of others", others.toString(), "[]");
    }

    private void methods(String code) {
        List<String> wrong = new ArrayList<>();
        int from = -1;
        int depth = 0;
        int line = 0;
        int found = 0;
        boolean isInMethod = false;
        int methodDepth = 0;
        for (String text : code.split("\n")) {
            line++;
            if (!isInMethod && text.matches(HEADER)) {
                isInMethod = true;
                found++;
                from = line;
                methodDepth = depth;
                if (text.split(",").length > 7) {
                    wrong.add("parameters of line " + line);
                }
            }
            for (char sign : text.toCharArray()) {
                depth += sign == '{' ? 1 : sign == '}' ? -1 : 0;
            }
            if (isInMethod && depth == methodDepth && text.contains("}")) {
                isInMethod = false;
                if (line - from >= 60) {
                    wrong.add("length of line " + from);
                }
            }
        }
        tests.same("methods are found", found >= FACE_METHODS, true);
        tests.same("methods that are too long or have too many parameters", wrong.toString(), "[]");
        tests.same("all brackets are closed", depth, 0);
    }

    private void classes() {
        Class<?>[] inside = Sortpocket.class.getDeclaredClasses();
        tests.same("some twelve classes", inside.length + 1 <= 12, true);
        Set<String> face = new TreeSet<>();
        for (Method method : Sortpocket.class.getDeclaredMethods()) {
            if (Modifier.isPublic(method.getModifiers())) {
                face.add(method.getName());
            }
        }
        fields(Sortpocket.class);
        for (Class<?> one : inside) {
            tests.same("static: " + one, Modifier.isStatic(one.getModifiers()), true);
            tests.same("not public: " + one, Modifier.isPublic(one.getModifiers()), false);
            for (Method method : one.getDeclaredMethods()) {
                tests.same("a name of the face: " + method, face.contains(method.getName()), false);
            }
            fields(one);
        }
    }

    private void fields(Class<?> one) {
        int count = 0;
        for (Field field : one.getDeclaredFields()) {
            if (!Modifier.isStatic(field.getModifiers())) {
                count++;
            } else {
                tests.same("final: " + field, Modifier.isFinal(field.getModifiers()), true);
            }
        }
        tests.same("some twenty fields of " + one, count <= 20, true);
    }
}
