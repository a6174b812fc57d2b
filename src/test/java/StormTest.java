import java.lang.reflect.InvocationTargetException;
import java.lang.reflect.Method;
import java.util.ArrayList;
import java.util.Comparator;
import java.util.List;
import java.util.Random;

/** No call throws or fails to end, for any arguments in any state, nor behind the 512th call. */
public final class StormTest {
    private static final int[] EDGES = {Integer.MIN_VALUE, Integer.MIN_VALUE + 1, -65536, -301, -101,
        -10, -6, -5, -1, 4, 5, 6, 9, 10, 11, 12, 13, 15, 16, 19, 20, 21, 24, 25, 39, 40, 41, 50, 60,
        61, 99, 100, 300, 301, 65535, 65536, Integer.MAX_VALUE - 1, Integer.MAX_VALUE};

    public static void main(String[] args) throws IllegalAccessException {
        List<Method> methods = new ArrayList<>();
        for (Method method : MercuryLine.class.getDeclaredMethods()) {
            if (java.lang.reflect.Modifier.isPublic(method.getModifiers())) {
                methods.add(method);
            }
        }
        methods.sort(Comparator.comparing(Method::getName));
        for (int seed = 1; seed <= 30; seed++) {
            storm(new Random(seed), methods);
        }
        Check.end("StormTest");
    }

    private static void storm(Random random, List<Method> methods) throws IllegalAccessException {
        MercuryLine x = new MercuryLine();
        int edges = random.nextInt(60);
        for (int call = 0; call < 3000; call++) {
            Method method = methods.get(random.nextInt(methods.size()));
            Object[] arguments = new Object[method.getParameterCount()];
            for (int i = 0; i < arguments.length; i++) {
                int number = random.nextInt(100) < edges ? EDGES[random.nextInt(EDGES.length)]
                    : random.nextInt(1 + random.nextInt(12));
                boolean isChar = method.getParameterTypes()[i] == char.class;
                arguments[i] = isChar ? (Object) (char) number : (Object) number;
            }
            Check.due(method.getName() + " throws nothing", answers(method, x, arguments));
        }
    }

    private static boolean answers(Method method, MercuryLine x, Object[] arguments)
            throws IllegalAccessException {
        try {
            method.invoke(x, arguments);
            return true;
        } catch (InvocationTargetException e) {
            System.out.println(method.getName() + java.util.Arrays.toString(arguments) + ": " + e.getCause());
            return false;
        }
    }
}
