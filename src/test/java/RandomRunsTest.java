import java.lang.reflect.InvocationTargetException;
import java.lang.reflect.Method;
import java.lang.reflect.Modifier;
import java.util.ArrayList;
import java.util.Arrays;
import java.util.Comparator;
import java.util.List;
import java.util.Random;

/** Long runs of calls of the whole face, drawn by fixed seeds, against the model. */
final class RandomRunsTest {
    private static final int RUNS = 400;
    private static final int CALLS = 512;
    private static final int[] WHOLES = {1, 2, 3, 4, 7, 8, 9, 10, 11, 16, 99, 100, 999, 1000, 1001, 4095, 4096, 4097,
        9999, 10000, 32768, 65521, 65535, 65536, 0, -1, 65537, -2147483648, 2147483647};
    private static final int[] POWERS = {-1000, -999, -500, -12, -11, -10, -9, -4, -3, -2, -1, 0, 1, 2, 3, 16, 17, 256,
        500, 999, 1000, -1001, 1001, -2147483648, 2147483647};

    private RandomRunsTest() {
    }

    public static void main(String[] args) throws ReflectiveOperationException {
        List<Method> face = new ArrayList<>();
        for (Method method : Factorweights.class.getDeclaredMethods()) {
            if (Modifier.isPublic(method.getModifiers())) {
                face.add(method);
            }
        }
        face.sort(Comparator.comparing(Method::getName));
        Check.due("methods of the face", face.size(), 54);
        for (int run = 0; run < RUNS; run++) {
            play(run, face);
        }
        Check.end();
    }

    private static void play(int run, List<Method> face) throws ReflectiveOperationException {
        Random random = new Random(run);
        Factorweights program = new Factorweights();
        Model model = new Model();
        int wildness = run % 4 == 0 ? 12 : 60;
        for (int call = 0; call < CALLS; call++) {
            Method method = face.get(random.nextInt(face.size()));
            Object[] arguments = draw(random, method, wildness);
            Object got = made(method, program, arguments);
            Object due = made(Model.class.getMethod(method.getName(), method.getParameterTypes()), model, arguments);
            String told = "run " + run + ", call " + call + ": " + method.getName() + Arrays.toString(arguments);
            Check.due(told, got, due);
            if (!due.equals(got)) {
                return;
            }
        }
    }

    private static Object made(Method method, Object on, Object[] arguments) throws IllegalAccessException {
        try {
            return method.invoke(on, arguments);
        } catch (InvocationTargetException thrown) {
            return thrown.getCause().getClass();
        }
    }

    private static Object[] draw(Random random, Method method, int wildness) {
        Class<?>[] types = method.getParameterTypes();
        Object[] arguments = new Object[types.length];
        for (int at = 0; at < types.length; at++) {
            arguments[at] = types[at] == boolean.class ? (Object) random.nextBoolean() : drawInt(random, method, at, wildness);
        }
        return arguments;
    }

    private static int drawInt(Random random, Method method, int at, int wildness) {
        if (random.nextInt(wildness) == 0) {
            return WHOLES[random.nextInt(WHOLES.length)];
        }
        switch (method.getName() + at) {
            case "putWhole1":
                return random.nextBoolean() ? WHOLES[random.nextInt(24)] : 1 + (65535 >> random.nextInt(16)) * random.nextInt(100) / 100;
            case "putPower1":
                return random.nextBoolean() ? POWERS[random.nextInt(21)] : random.nextInt(2001) - 1000;
            case "answerPlaces1":
                return random.nextInt(10);
            case "answerOrder2":
                return random.nextInt(2);
            case "digitsIn1", "quotient1":
                return 2 + random.nextInt(16);
            case "factorialDigits0":
                return random.nextInt(101);
            case "heapAt1":
                return random.nextInt(random.nextBoolean() ? 4 : 16);
            case "house0":
                return random.nextInt(5);
            default:
                boolean isHeap = method.getName().startsWith("heap")
                    && (at == 0 || method.getName().equals("heapCopy") || method.getName().equals("heapOrder"));
                return random.nextInt(isHeap ? 4 : 8);
        }
    }
}
