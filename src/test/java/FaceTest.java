import java.lang.reflect.Constructor;
import java.lang.reflect.Field;
import java.lang.reflect.Method;
import java.lang.reflect.Modifier;

/** The face: the document's members are public, and all else of the class is private. */
final class FaceTest {
    private static final int METHODS = 54;

    private FaceTest() {
    }

    public static void main(String[] args) {
        Check.due("public final", Factorweights.class.getModifiers(), Modifier.PUBLIC | Modifier.FINAL);
        Constructor<?>[] constructors = Factorweights.class.getDeclaredConstructors();
        Check.due("constructors", constructors.length, 1);
        Check.due("public constructor", constructors[0].getModifiers(), Modifier.PUBLIC);
        int faces = 0;
        for (Method method : Factorweights.class.getDeclaredMethods()) {
            boolean isFace = Modifier.isPublic(method.getModifiers());
            faces += isFace ? 1 : 0;
            Check.due(method.getName() + " is public or private", isFace || Modifier.isPrivate(method.getModifiers()), true);
        }
        Check.due("methods", faces, METHODS);
        for (Field field : Factorweights.class.getDeclaredFields()) {
            boolean isHeld = Modifier.isPrivate(field.getModifiers()) && Modifier.isFinal(field.getModifiers());
            Check.due(field.getName() + " is private and final", isHeld, true);
        }
        Check.end();
    }
}
