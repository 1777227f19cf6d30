import java.lang.reflect.Constructor;
import java.lang.reflect.Field;
import java.lang.reflect.Method;
import java.lang.reflect.Modifier;
import java.util.ArrayList;
import java.util.Arrays;
import java.util.List;

/** The face: the document's members are public, each as the document writes it, and all else of the class is private. */
final class FaceTest {
    private static final int METHODS = 54;

    private FaceTest() {
    }

    public static void main(String[] args) throws ReflectiveOperationException {
        Check.due("public final", Factorweights.class.getModifiers(), Modifier.PUBLIC | Modifier.FINAL);
        Constructor<?>[] constructors = Factorweights.class.getDeclaredConstructors();
        Check.due("constructors", constructors.length, 1);
        Check.due("public constructor", constructors[0].getModifiers(), Modifier.PUBLIC);
        Check.due("of no argument", constructors[0].getParameterCount(), 0);
        Check.due("methods of the table", Face.ENTRIES.size(), METHODS);
        checkEachMethod();
        checkAllElseIsPrivate();
        Check.end();
    }

    private static void checkEachMethod() throws ReflectiveOperationException {
        for (Face.Entry entry : Face.ENTRIES) {
            Method method = Factorweights.class.getDeclaredMethod(entry.name(), entry.types());
            Check.due(entry.name() + " is public, no more", method.getModifiers(), Modifier.PUBLIC);
            Check.due(entry.name() + " answers", method.getReturnType().getSimpleName(), entry.answer());
            Check.due(entry.name() + " throws", Arrays.asList(method.getExceptionTypes()), thrownBy(entry));
        }
    }

    private static List<Class<?>> thrownBy(Face.Entry entry) {
        List<Class<?>> thrown = new ArrayList<>();
        for (Face.Kind kind : entry.kinds()) {
            if (kind.thrown != null && !thrown.contains(kind.thrown)) {
                thrown.add(kind.thrown);
            }
        }
        return thrown;
    }

    private static void checkAllElseIsPrivate() {
        int faces = 0;
        for (Method method : Factorweights.class.getDeclaredMethods()) {
            boolean isFace = Modifier.isPublic(method.getModifiers());
            faces += isFace ? 1 : 0;
            Check.due(method.getName() + " is public or private", isFace || Modifier.isPrivate(method.getModifiers()), true);
        }
        Check.due("methods", faces, METHODS);
        for (Field field : Factorweights.class.getDeclaredFields()) {
            boolean isHeld = Modifier.isPrivate(field.getModifiers()) && Modifier.isFinal(field.getModifiers());
            Check.due(field.getName() + " is private and final", isHeld, true);
        }
    }
}
