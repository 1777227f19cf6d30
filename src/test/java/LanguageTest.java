import java.io.IOException;
import java.lang.reflect.Field;
import java.lang.reflect.Method;
import java.lang.reflect.Modifier;
import java.nio.file.Files;
import java.nio.file.Path;
import java.util.ArrayList;
import java.util.HashSet;
import java.util.List;
import java.util.Set;
import java.util.regex.Matcher;
import java.util.regex.Pattern;

/**
 * Those rules of ../shared/LANGUAGE.md that can be seen from the class and from its text without reading Java. What
 * the program has no need of is refused here altogether, also where the rules let some of it.
 */
final class LanguageTest {
    private static final Path PROGRAM = Path.of("src/main/java/Factorweights.java");
    private static final int MOST_CLASSES = 12;
    private static final int MOST_FIELDS = 20;
    private static final int MOST_PARAMETERS = 7;
    private static final int MOST_LINES = 60;

    private static final Set<Class<?>> CONSTANTS = Set.of(int.class, long.class, boolean.class, char.class, String.class,
        int[].class, long[].class, char[].class, byte[].class);
    private static final Set<String> LIBRARY = Set.of("System.arraycopy", "StringBuilder", "String",
        "IndexOutOfBoundsException", "IllegalArgumentException");
    private static final Pattern REFUSED = Pattern.compile(
        "\\b(import|package|try|catch|finally|synchronized|assert|instanceof|native|volatile|transient|double|float|null)\\b"
            + "|->|::|@|\\bstatic\\s*\\{");
    private static final Pattern NAME_OF_CLASS = Pattern.compile("(?<![\\w.])([A-Z][a-z]\\w*)(\\.[a-z]\\w*)?");
    private static final Pattern BEGIN_OF_METHOD = Pattern.compile(" +[a-zA-Z].*\\) (throws .*)?\\{");

    private LanguageTest() {
    }

    public static void main(String[] args) throws IOException {
        List<Class<?>> classes = classes();
        Check.due("11: at most some twelve classes", classes.size() <= MOST_CLASSES, true);
        for (Class<?> one : classes) {
            checkClass(one);
            checkFields(one);
            checkMethods(one);
        }
        checkText(Files.readString(PROGRAM), classes);
        checkLengths(Files.readAllLines(PROGRAM));
        Check.end();
    }

    private static List<Class<?>> classes() {
        List<Class<?>> classes = new ArrayList<>();
        classes.add(Factorweights.class);
        classes.addAll(List.of(Factorweights.class.getDeclaredClasses()));
        return classes;
    }

    private static void checkClass(Class<?> one) {
        if (one == Factorweights.class) {
            return;
        }
        int modifiers = one.getModifiers();
        boolean isHidden = !Modifier.isPublic(modifiers) && !Modifier.isProtected(modifiers);
        Check.due("1: " + one.getName() + " is private or package-visible", isHidden, true);
        Check.due("2: " + one.getName() + " is static", Modifier.isStatic(modifiers), true);
        Check.due("2: " + one.getName() + " has no class inside", one.getDeclaredClasses().length, 0);
    }

    private static void checkFields(Class<?> one) {
        int held = 0;
        for (Field field : one.getDeclaredFields()) {
            String name = one.getName() + "." + field.getName();
            if (Modifier.isStatic(field.getModifiers())) {
                Check.due("5: " + name + " is final", Modifier.isFinal(field.getModifiers()), true);
                Check.due("5: " + name + " is a constant", CONSTANTS.contains(field.getType()), true);
            } else {
                held++;
            }
        }
        Check.due("11: " + one.getName() + " has at most some twenty fields", held <= MOST_FIELDS, true);
    }

    private static void checkMethods(Class<?> one) {
        Set<String> face = new HashSet<>();
        for (Face.Entry entry : Face.ENTRIES) {
            face.add(entry.name());
        }
        for (Method method : one.getDeclaredMethods()) {
            String name = one.getName() + "." + method.getName();
            Check.due("11: " + name + " takes at most seven", method.getParameterCount() <= MOST_PARAMETERS, true);
            boolean isTaken = Modifier.isPrivate(method.getModifiers()) && face.contains(method.getName());
            Check.due("1: " + name + " is private and bears the name of a public one", isTaken, false);
            boolean isOfObjects = Set.of("equals", "hashCode", "toString", "finalize").contains(method.getName());
            Check.due("6: " + name + " is one of every object's", isOfObjects, false);
        }
    }

    private static void checkText(String text, List<Class<?>> classes) {
        Check.due("4: signs are 1 to 127", text.chars().allMatch(sign -> sign >= 1 && sign <= 127), true);
        String code = text.replaceAll("(?s)/\\*.*?\\*/", "").replaceAll("//[^\n]*", "");
        String bare = code.replaceAll("\"[^\"\n]*\"", "\"\"");
        Check.due("10: texts are joined by +", Pattern.compile("\"\\s*\\+|\\+\\s*\"").matcher(bare).find(), false);
        Matcher refused = REFUSED.matcher(bare);
        while (refused.find()) {
            Check.due("the text has " + refused.group(), true, false);
        }
        Set<String> known = new HashSet<>(LIBRARY);
        for (Class<?> one : classes) {
            known.add(one.getSimpleName());
        }
        Matcher named = NAME_OF_CLASS.matcher(bare);
        while (named.find()) {
            Check.due("4: " + named.group() + " is let", known.contains(named.group(1)) || known.contains(named.group()), true);
        }
    }

    private static void checkLengths(List<String> lines) {
        int begin = -1;
        String end = "";
        for (int at = 0; at < lines.size(); at++) {
            String line = lines.get(at);
            if (begin < 0 && BEGIN_OF_METHOD.matcher(line).matches()) {
                begin = at;
                end = line.substring(0, line.length() - line.stripLeading().length()) + "}";
            } else if (begin >= 0 && line.equals(end)) {
                Check.due("11: at most some sixty lines from line " + (begin + 1) + " on", at - begin < MOST_LINES, true);
                begin = -1;
            }
        }
        Check.due("11: each method has an end", begin, -1);
    }
}
