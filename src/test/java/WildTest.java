import java.lang.reflect.InvocationTargetException;
import java.lang.reflect.Method;
import java.lang.reflect.Modifier;
import java.util.ArrayList;
import java.util.Comparator;
import java.util.List;
import java.util.Random;

/**
 * Calls with any numbers at all, in any order: a call answers, or throws what its promise names, and nothing else;
 * what it throws is counted. Arguments: how many objects, the first seed (both may be left out).
 */
public final class WildTest extends Checks {
    private static final int[] EDGES = {
        LEAST_INT, LEAST_INT + 1, -1_441, -1_440, -721, -720, -2, -1, 0, 1, 2, 3, 4, 5, 6, 7, 8, 9, 10, 11, 12, 13, 15, 16,
        20, 21, 40, 47, 48, 63, 64, 96, 126, 127, 399, 400, 600, 840, 841, 1_000, 1_438, 1_439, 1_440, 9_999, 20_160, 20_161,
        99_999, 575_998, 575_999, 576_000, 999_999, 1_000_000, 1_000_001, 9_999_999, 10_000_000, MOST_INT - 1, MOST_INT,
    };
    private static final List<Method> CALLS = calls();

    private static List<Method> calls() {
        List<Method> all = new ArrayList<>();
        for (Method method : AbroadRouter.class.getDeclaredMethods()) {
            if (Modifier.isPublic(method.getModifiers()) && !method.getName().equals("status")) all.add(method);
        }
        all.sort(Comparator.comparing(Method::getName));
        return all;
    }

    public static void main(String[] args) {
        int objects = args.length > 0 ? Integer.parseInt(args[0]) : 400;
        long seed = args.length > 1 ? Long.parseLong(args[1]) : 1;
        for (int i = 0; i < objects && wrongs == 0; i++) one(seed + i);
        System.out.println(checks + " calls with any numbers, " + wrongs + " not as due");
        if (wrongs != 0) System.exit(1);
    }

    private static void one(long seed) {
        Random random = new Random(seed);
        AbroadRouter x = new AbroadRouter();
        about = "object " + seed;
        if (seed % 4 != 0) begin(x, random);
        int[] refused = {x.status(0), x.status(1)};
        for (int i = 0; i < 155; i++) {
            Method method = CALLS.get(random.nextInt(CALLS.size()));
            Object[] numbers = new Object[method.getParameterCount()];
            for (int k = 0; k < numbers.length; k++) {
                boolean isInt = method.getParameterTypes()[k] == int.class;
                numbers[k] = isInt ? (Object) number(random) : (Object) random.nextBoolean();
            }
            Class<?> thrown = thrownBy(method, x, numbers);
            checks++;
            if (thrown != null && !List.of(method.getExceptionTypes()).contains(thrown)) say(method.getName() + " threw " + thrown);
            if (thrown == java.util.NoSuchElementException.class) refused[0]++;
            if (thrown == IllegalArgumentException.class) refused[1]++;
            if (x.status(0) != refused[0] || x.status(1) != refused[1]) say(method.getName() + " is counted otherwise");
        }
    }
    /** Mostly numbers with which something is done. */
    private static int number(Random random) {
        int pick = random.nextInt(10);
        if (pick < 6) return random.nextInt(5);
        return pick < 9 ? EDGES[random.nextInt(EDGES.length)] : random.nextInt();
    }
    private static Class<?> thrownBy(Method method, AbroadRouter x, Object[] numbers) {
        try {
            method.invoke(x, numbers);
            return null;
        } catch (InvocationTargetException e) {
            return e.getCause().getClass();
        } catch (IllegalAccessException e) {
            throw new IllegalStateException(e);
        }
    }
    private static void begin(AbroadRouter x, Random random) {
        for (int i = 0; i < 3; i++) x.place(random.nextInt(1_561) - 720, random.nextInt(127), random.nextInt(300), 900 + random.nextInt(540));
        for (int i = 0; i < 5; i++) x.bank(random.nextInt(3));
        for (int i = 0; i < 8; i++) {
            int from = random.nextInt(5);
            x.account(from, (from + 1 + random.nextInt(4)) % 5, random.nextInt(1_440), random.nextInt(6), random.nextInt(1_440));
            x.fund(i, 1 + random.nextInt(9_999_999));
        }
    }
}
