import java.lang.reflect.InvocationTargetException;
import java.lang.reflect.Method;
import java.lang.reflect.Modifier;
import java.util.ArrayList;
import java.util.Arrays;
import java.util.Comparator;
import java.util.List;
import java.util.NoSuchElementException;
import java.util.Random;

/**
 * All promises with arguments of every size in every state: each call answers as the Model does, and
 * nothing but the NoSuchElementException of man is ever thrown.
 */
public final class WildTest {
    private static final int RUNS = 300;
    private static final int CALLS = 512;
    private static final int[] WILD = {Integer.MIN_VALUE, Integer.MIN_VALUE + 1, -1000001, -1000000, -65536, -257, -33,
        -2, -1, 0, 1, 2, 3, 7, 8, 9, 10, 11, 12, 20, 21, 31, 32, 33, 39, 40, 41, 59, 60, 61, 63, 64, 65, 240, 241, 255,
        256, 257, 9261, 9999, 10000, 65536, 1000000, 1 << 30, Integer.MAX_VALUE - 1, Integer.MAX_VALUE};
    private static final String SIGNS = "mowsdvbnikxpg;y:?!|&()[]=<>+-*/0123456789 \u00ff";

    private WildTest() {
    }

    public static void main(String[] args) throws Exception {
        List<Method> calls = new ArrayList<>();
        for (Method m : LastHome.class.getDeclaredMethods()) {
            if (Modifier.isPublic(m.getModifiers())) {
                calls.add(m);
            }
        }
        calls.sort(Comparator.comparing(Method::getName));
        Check.same("calls of the face", calls.size(), 45);
        for (int run = 0; run < RUNS; run++) {
            run(run, calls);
        }
        Check.finish("WildTest");
    }

    private static void run(int run, List<Method> calls) throws Exception {
        Random r = new Random(run * 104729L + 3);
        LastHome x = new LastHome();
        Model y = new Model();
        int made = 0;
        while (made < CALLS) {
            if (r.nextInt(40) == 0 || made == 10) {
                made += tell(r, x, y, r.nextInt(3) == 0 ? 1 : 0);
            }
            Method m = calls.get(r.nextInt(calls.size()));
            compare(run, m, arguments(r, m), x, y);
            made++;
        }
    }

    private static int tell(Random r, LastHome x, Model y, int sort) {
        String right = sort == 0 ? Drawn.war(r) : Drawn.law(r);
        String text = r.nextInt(4) == 0 ? Drawn.spoilt(r, right, SIGNS) : right;
        Check.fed(x, text);
        y.tape = text;
        Check.same("text " + sort + " of '" + text + "'", x.text(sort), y.text(sort));
        return 4 + text.length() / 20;
    }

    private static Object[] arguments(Random r, Method m) {
        Class<?>[] types = m.getParameterTypes();
        Object[] all = new Object[types.length];
        for (int i = 0; i < types.length; i++) {
            all[i] = types[i] == long.class ? (Object) r.nextLong() : (Object) number(r);
        }
        return all;
    }

    private static int number(Random r) {
        int sort = r.nextInt(5);
        return sort < 3 ? r.nextInt(4) : sort == 3 ? WILD[r.nextInt(WILD.length)] : r.nextInt();
    }

    private static void compare(int run, Method m, Object[] arguments, LastHome x, Model y) throws Exception {
        String told = "run " + run + " " + m.getName() + Arrays.toString(arguments);
        Object got;
        try {
            got = m.invoke(x, arguments);
        } catch (InvocationTargetException e) {
            boolean promised = m.getName().equals("man") && e.getCause() instanceof NoSuchElementException;
            Check.same(told + " throws " + e.getCause() + " as promised", promised, true);
            got = Check.HIDDEN;
        }
        Check.same(told, number(got), number(modelled(m, arguments, y)));
    }

    private static Object modelled(Method m, Object[] arguments, Model y) throws Exception {
        if (m.getName().equals("feed")) {
            int[] numbers = new int[arguments.length];
            for (int i = 0; i < numbers.length; i++) {
                numbers[i] = (Integer) arguments[i];
            }
            return y.feed(numbers);
        }
        Method same = Model.class.getDeclaredMethod(m.getName(), m.getParameterTypes());
        return same.invoke(y, arguments);
    }

    private static int number(Object answer) {
        return answer instanceof Boolean ? (Boolean) answer ? 1 : 0 : (Integer) answer;
    }
}
