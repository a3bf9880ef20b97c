import java.lang.reflect.InvocationTargetException;
import java.lang.reflect.Method;
import java.lang.reflect.Modifier;
import java.util.ArrayList;
import java.util.Arrays;
import java.util.List;
import java.util.Random;

/**
 * All methods in all states, with arguments at and far beyond their limits; the seeds are fixed. Only
 * what a method lists may come out of it, and of the class that it lists, not of one below.
 */
public final class ExtremesTest {
    private static final int RUNS_OF_A_STATE = 20;
    private static final int CALLS = 150;
    private static final int[] NUMBERS = {Integer.MIN_VALUE, Integer.MIN_VALUE + 1, -241, -240, -4, -3, -2, -1, 0, 1, 2,
        3, 4, 5, 6, 7, 8, 9, 10, 31, 32, 33, 59, 60, 63, 64, 99, 100, 119, 120, 121, 199, 200, 201,
        Integer.MAX_VALUE - 1, Integer.MAX_VALUE};
    private static final char[] SIGNS = {0, '-', 'A', '`', 'a', 'b', 'e', 'f', 'h', 's', 't', 'z', '{', 127, 128, 255,
        256 + 'f', Character.MAX_VALUE};

    private ExtremesTest() {
    }

    public static void main(String[] args) throws IllegalAccessException {
        List<Method> methods = new ArrayList<>();
        for (Method method : Jamhouse.class.getDeclaredMethods()) {
            if (Modifier.isPublic(method.getModifiers())) {
                methods.add(method);
            }
        }
        // The order in which methods are told is not promised.
        methods.sort((one, other) -> one.getName().compareTo(other.getName()));
        for (State state : State.values()) {
            for (int seed = 0; seed < RUNS_OF_A_STATE; seed++) {
                play(state, methods, new Random(seed));
            }
        }
        Check.close("ExtremesTest");
    }

    private static void play(State state, List<Method> methods, Random random) throws IllegalAccessException {
        Jamhouse house = state.make();
        StringBuilder unlisted = new StringBuilder();
        for (int i = 0; i < CALLS; i++) {
            Method method = methods.get(random.nextInt(methods.size()));
            Object[] arguments = new Object[method.getParameterCount()];
            for (int j = 0; j < arguments.length; j++) {
                arguments[j] = argument(method.getParameterTypes()[j], random);
            }
            try {
                method.invoke(house, arguments);
            } catch (InvocationTargetException e) {
                Class<?> thrown = e.getCause().getClass();
                if (!Arrays.asList(method.getExceptionTypes()).contains(thrown)) {
                    unlisted.append(method.getName()).append(Arrays.toString(arguments)).append(' ').append(thrown);
                }
            }
        }
        Check.due("what no method lists, from " + state, unlisted.toString(), "");
        Check.isTrue("sound, from " + state, house.isSound());
    }

    private static Object argument(Class<?> type, Random random) {
        if (type == boolean.class) {
            return random.nextBoolean();
        }
        if (type == char.class) {
            return random.nextInt(4) == 0 ? SIGNS[random.nextInt(SIGNS.length)] : (char) ('a' + random.nextInt(26));
        }
        return random.nextInt(3) == 0 ? NUMBERS[random.nextInt(NUMBERS.length)] : random.nextInt(5);
    }
}
