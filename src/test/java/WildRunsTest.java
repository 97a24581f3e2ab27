import java.lang.reflect.InvocationTargetException;
import java.lang.reflect.Method;
import java.util.ArrayList;
import java.util.Arrays;
import java.util.Comparator;
import java.util.List;
import java.util.Random;

/**
 * "No call may ever throw, for any arguments in any state" (LANGUAGE.md, 7): every call of the face with small
 * and wild numbers by turns, in the states that such runs come to, each answer compared with the plain model's.
 */
public final class WildRunsTest {
    private static final int RUNS = 300;
    private static final int CALLS = 512;
    private static final List<Method> FACE = face();

    private final Random random;
    private final RoomGone store = new RoomGone();
    private final PlainModel model = new PlainModel();
    private final int small;
    private final int wildness;

    private WildRunsTest(int seed) {
        random = new Random(seed);
        // With few numbers the calls meet one another's folders and files, with many they come to the limits.
        small = 2 + random.nextInt(seed % 4 == 0 ? 60 : 6);
        wildness = 2 + random.nextInt(20);
    }

    public static void main(String[] args) throws ReflectiveOperationException {
        for (int seed = 0; seed < RUNS; seed++) {
            WildRunsTest run = new WildRunsTest(seed);
            for (int i = 0; i < CALLS; i++) {
                run.compare("run " + seed + ", call " + i + ": ");
            }
        }
        Due.end();
    }

    /** In a fixed order, as reflection tells none and a seed must always make the same run. */
    private static List<Method> face() {
        List<Method> found = new ArrayList<>();
        for (Method method : RoomGone.class.getMethods()) {
            if (method.getDeclaringClass() == RoomGone.class) {
                found.add(method);
            }
        }
        found.sort(Comparator.comparing(Method::getName));
        return found;
    }

    private void compare(String where) throws ReflectiveOperationException {
        Method method = FACE.get(random.nextInt(FACE.size()));
        Object[] arguments = arguments(method.getParameterTypes());
        Method due = PlainModel.class.getDeclaredMethod(method.getName(), method.getParameterTypes());
        Object got = answer(method, arguments);
        Object expected = due.invoke(model, arguments);
        Due.yes(where + method.getName() + Arrays.toString(arguments) + ": '" + got + " is " + expected + "'",
            expected.equals(got));
    }

    /** What was thrown, if something was: so it is printed with the call, and the other runs go on. */
    private Object answer(Method method, Object[] arguments) throws IllegalAccessException {
        try {
            return method.invoke(store, arguments);
        } catch (InvocationTargetException thrown) {
            return thrown.getCause();
        }
    }

    private Object[] arguments(Class<?>[] types) {
        Object[] made = new Object[types.length];
        for (int i = 0; i < types.length; i++) {
            made[i] = types[i] == boolean.class ? (Object) (random.nextInt(4) == 0) : (Object) number();
        }
        return made;
    }

    private int number() {
        return random.nextInt(wildness) == 0 ? Stores.WILD[random.nextInt(Stores.WILD.length)] : random.nextInt(small);
    }
}
