import java.lang.reflect.InvocationTargetException;
import java.lang.reflect.Method;
import java.lang.reflect.Modifier;
import java.util.ArrayList;
import java.util.Arrays;
import java.util.Comparator;
import java.util.List;
import java.util.Random;

/**
 * Every call with any numbers in any state, far behind the 512th call too: it answers and never throws, it answers a
 * number from 0 on or one of the five constants, and the same calls on two objects answer the same, though a third
 * object is used for other calls all the while.
 */
public final class AnyUseTest {
    private static final int RUNS = 40;
    private static final int CALLS = 4000;
    private static final int[] FAR = {
        -1, -2, -101, 10, 12, 32, 63, 64, 255, 256, 999, 1000, 1023, 1024, 1999, 2000, 99999, 100000, 1 << 16, 1 << 30,
        Integer.MAX_VALUE, Integer.MAX_VALUE - 1, Integer.MIN_VALUE, Integer.MIN_VALUE + 1};
    private static final String[] TEXTS = {
        "01", "o234", "o5678", "?923", "+945", ",", "67", "o", "?", "+", "0", "9", "89", "01,23,45", "o012,", "~", "\1"};
    private static final Check check = new Check();

    public static void main(String[] args) throws IllegalAccessException {
        List<Method> face = face();
        check.holds("31 methods are called", face.size() == 31);
        for (int seed = 0; seed < RUNS && check.wrong() < 20; seed++) {
            run(face, new Random(seed));
        }
        check.end();
    }

    /** In the order of their names, for reflection tells no order, and a seed should always tell the same run. */
    private static List<Method> face() {
        List<Method> methods = new ArrayList<>();
        for (Method method : FeltByTwin.class.getDeclaredMethods()) {
            if (Modifier.isPublic(method.getModifiers())) {
                methods.add(method);
            }
        }
        methods.sort(Comparator.comparing(Method::getName));
        return methods;
    }

    private static void run(List<Method> face, Random random) throws IllegalAccessException {
        FeltByTwin x = new FeltByTwin();
        FeltByTwin y = new FeltByTwin();
        FeltByTwin other = new FeltByTwin();
        for (int i = 0; i < CALLS && check.wrong() < 20; i++) {
            Method method = face.get(random.nextInt(face.size()));
            Object[] numbers = numbersFor(method, random);
            String call = method.getName() + Arrays.toString(numbers);
            long answer = call(method, x, numbers, call);
            call(method, other, numbersFor(method, random), call);
            check.same(call + " on another object", call(method, y, numbers, call), answer);
            check.holds(call + " answered " + answer, method.getName().equals("digest") || isAnswer(answer));
        }
    }

    private static long call(Method method, FeltByTwin x, Object[] numbers, String call) throws IllegalAccessException {
        try {
            return ((Number) method.invoke(x, numbers)).longValue();
        } catch (InvocationTargetException thrown) {
            check.holds(call + " threw " + thrown.getCause(), false);
            return 0;
        }
    }

    private static boolean isAnswer(long answer) {
        return answer >= 0 || answer == FeltByTwin.NONE || answer == FeltByTwin.UNKNOWN
            || answer == FeltByTwin.OUTSIDE || answer == FeltByTwin.STATE || answer == FeltByTwin.FULL;
    }

    private static Object[] numbersFor(Method method, Random random) {
        Class<?>[] types = method.getParameterTypes();
        Object[] numbers = new Object[types.length];
        for (int i = 0; i < types.length; i++) {
            if (types[i] == long.class) {
                numbers[i] = someLetters(random);
            } else {
                numbers[i] = someNumber(random);
            }
        }
        return numbers;
    }

    private static int someNumber(Random random) {
        int kind = random.nextInt(20);
        return kind < 14 ? random.nextInt(10) : kind < 17 ? random.nextInt(256) : FAR[random.nextInt(FAR.length)];
    }

    private static long someLetters(Random random) {
        return random.nextInt(8) == 0 ? random.nextLong() : Check.bytes(TEXTS[random.nextInt(TEXTS.length)], 0);
    }
}
