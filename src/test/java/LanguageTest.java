import java.io.IOException;
import java.lang.reflect.Constructor;
import java.lang.reflect.Field;
import java.lang.reflect.Method;
import java.lang.reflect.Modifier;
import java.nio.file.Files;
import java.nio.file.Path;
import java.util.ArrayList;
import java.util.List;
import java.util.Set;
import java.util.TreeSet;
import java.util.regex.Matcher;
import java.util.regex.Pattern;

/** ../shared/LANGUAGE.md: those of its rules that can be seen from the text of the class, or from what it holds. */
public final class LanguageTest {
    private static final Set<String> LIBRARY = Set.of("Math.max", "Math.min", "System.arraycopy");
    private static final Set<String> THROWN = Set.of("IllegalStateException", "IllegalArgumentException",
            "IndexOutOfBoundsException", "ArithmeticException", "UnsupportedOperationException",
            "NoSuchElementException", "RuntimeException");
    /** The first line of a method: neither a statement nor a block within one. */
    private static final Pattern HEAD =
            Pattern.compile("( {4}| {8})(?!(if|for|while|do|switch|try|return|throw|else)\\b)\\w[^;=]*\\([^;=]*");
    private static final Set<Class<?>> PLAIN = Set.of(int.class, long.class, short.class, byte.class, char.class,
            boolean.class, double.class, float.class, String.class);

    public static void main(String[] args) throws IOException {
        String text = Files.readString(Path.of("src/main/java/DuelFrames.java"));
        signs(text);
        String code = text.replaceAll("(?s)/\\*.*?\\*/", "").replaceAll("//[^\n]*", "");
        words(code);
        library(code);
        exceptions(code);
        List<Class<?>> classes = new ArrayList<>(List.of(DuelFrames.class.getDeclaredClasses()));
        classes.add(DuelFrames.class);
        Check.yes("11. some twelve classes at most", classes.size() <= 12);
        lengths(text, classes);
        for (Class<?> one : classes) {
            classOf(one);
        }
        names(classes);
        Check.end("LanguageTest");
    }

    private static void signs(String text) {
        Check.yes("4. signs 1 to 127", text.chars().allMatch(sign -> sign >= 1 && sign <= 127));
        Check.no("no package line", text.contains("package "));
    }

    private static void words(String code) {
        for (String word : List.of("finally", "synchronized", "assert", "native", "volatile", "transient", "import",
                "var", "yield", "hashCode", "equals", "toString", "getMessage", "double", "float")) {
            Check.no("no " + word, Pattern.compile("\\b" + word + "\\b").matcher(code).find());
        }
        for (String sign : List.of("->", "::", "@", "\" +", "+ \"")) {
            Check.no("no " + sign, code.contains(sign));
        }
        Check.no("5. no static block", Pattern.compile("static\\s*\\{").matcher(code).find());
        Check.no("7. a try answers no call here", Pattern.compile("\\b(try|catch)\\b").matcher(code).find());
    }

    private static void library(String code) {
        Set<String> used = new TreeSet<>();
        Matcher call = Pattern.compile("\\b(Math|System|Arrays|Integer|Long|String|List|Character)\\.\\w+").matcher(code);
        while (call.find()) {
            used.add(call.group());
        }
        Check.yes("4. of the library " + used, LIBRARY.containsAll(used));
    }

    private static void exceptions(String code) {
        Matcher thrown = Pattern.compile("\\bthrow\\b").matcher(code);
        Pattern form = Pattern.compile("throw new (\\w+)\\((\"[^\"]*\")?\\);");
        while (thrown.find()) {
            Matcher told = form.matcher(code).region(thrown.start(), code.length());
            Check.yes("6. the form of a throw", told.lookingAt() && THROWN.contains(told.group(1)));
        }
    }

    private static void lengths(String text, List<Class<?>> classes) {
        List<String> lines = text.lines().toList();
        int methods = 0;
        for (int i = 0; i < lines.size(); i++) {
            Matcher head = HEAD.matcher(lines.get(i));
            if (head.matches()) {
                methods++;
                int more = lines.subList(i, lines.size()).indexOf(head.group(1) + "}");
                Check.yes("11. some sixty lines at most: " + lines.get(i).trim(), more > 0 && more < 60);
            }
        }
        int held = 0;
        for (Class<?> one : classes) {
            held += one.getDeclaredMethods().length;
        }
        Check.yes("the heads of all methods are seen", methods >= held);
    }

    private static void classOf(Class<?> one) {
        if (one != DuelFrames.class) {
            int is = one.getModifiers();
            Check.yes("1. " + one + " is static", Modifier.isStatic(is));
            Check.no("1. " + one + " is for others", Modifier.isPublic(is) || Modifier.isProtected(is));
        }
        int held = 0;
        for (Field field : one.getDeclaredFields()) {
            boolean isStatic = Modifier.isStatic(field.getModifiers());
            held += isStatic ? 0 : 1;
            Check.yes("5. " + field + " is final", !isStatic || Modifier.isFinal(field.getModifiers()));
            Check.yes("3. the type of " + field, isAllowed(field.getType()));
        }
        Check.yes("11. some twenty fields at most: " + one, held <= 20);
        for (Constructor<?> made : one.getDeclaredConstructors()) {
            Check.yes("11. seven parameters at most: " + made, made.getParameterCount() <= 7);
        }
        for (Method method : one.getDeclaredMethods()) {
            Check.yes("11. seven parameters at most: " + method, method.getParameterCount() <= 7);
        }
    }

    private static boolean isAllowed(Class<?> type) {
        Class<?> one = type.isArray() ? type.getComponentType() : type;
        return PLAIN.contains(one) || one.getEnclosingClass() == DuelFrames.class;
    }

    /** 1. "No private method bears the name of a public one." */
    private static void names(List<Class<?>> classes) {
        Set<String> face = new TreeSet<>();
        for (Method method : DuelFrames.class.getDeclaredMethods()) {
            if (Modifier.isPublic(method.getModifiers())) {
                face.add(method.getName());
            }
        }
        for (Class<?> one : classes) {
            for (Method method : one.getDeclaredMethods()) {
                Check.yes("1. the name of " + method,
                        Modifier.isPublic(method.getModifiers()) || !face.contains(method.getName()));
            }
        }
    }
}
