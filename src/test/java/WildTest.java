import java.lang.reflect.InvocationTargetException;
import java.lang.reflect.Method;
import java.lang.reflect.Modifier;
import java.util.ArrayList;
import java.util.Arrays;
import java.util.Comparator;
import java.util.List;
import java.util.Random;

/** "No call may ever throw, for any arguments in any state": behind an object's 512th call, too. */
public final class WildTest {
    private static final int RUNS = 1000, CALLS = 1500;
    private static final int[] EDGES = {Integer.MIN_VALUE, Integer.MAX_VALUE, -3, -2, -1, 3, 4, 5, 6, 7, 9, 10, 20, 21, 22,
        27, 28, 33, 37, 38, 40, 41, 99, 100, 101, 126, 127, 999, 1000, 9999, 10000, 666666, 666667, 9999999, 10000000};
    private static final String SIGNS = "xls0123456789-;";

    public static void main(String[] args) throws Exception {
        Due due = new Due();
        due.about("rule 7");
        List<Method> calls = new ArrayList<>();
        for (Method m : RainCans.class.getDeclaredMethods()) {
            if (Modifier.isPublic(m.getModifiers())) {
                calls.add(m);
            }
        }
        calls.sort(Comparator.comparing(Method::getName));
        for (int run = 0; run < RUNS && due.wrong() < 20; run++) {
            run(due, calls, new Random(run));
        }
        due.end();
    }

    private static void run(Due due, List<Method> calls, Random random) throws Exception {
        RainCans x = new RainCans();
        for (int n = 0; n < CALLS; n++) {
            Method call = calls.get(random.nextInt(calls.size()));
            Object[] numbers = new Object[call.getParameterCount()];
            for (int k = 0; k < numbers.length; k++) {
                numbers[k] = number(random);
            }
            if (call.getName().equals("say") && random.nextInt(4) > 0) {
                numbers[0] = (int) SIGNS.charAt(random.nextInt(SIGNS.length()));
            }
            Throwable thrown = thrown(x, call, numbers);
            due.holds(call.getName() + Arrays.toString(numbers) + " threw " + thrown, thrown == null);
        }
    }

    private static int number(Random random) {
        int kind = random.nextInt(10);
        if (kind < 2) {
            return kind == 0 ? EDGES[random.nextInt(EDGES.length)] : random.nextInt();
        }
        return random.nextInt(kind < 6 ? 6 : kind < 9 ? 28 : 1000);
    }

    private static Throwable thrown(RainCans x, Method call, Object[] numbers) throws Exception {
        try {
            call.invoke(x, numbers);
            return null;
        } catch (InvocationTargetException e) {
            return e.getCause();
        }
    }
}
