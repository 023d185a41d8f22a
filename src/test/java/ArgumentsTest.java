import java.lang.reflect.InvocationTargetException;
import java.lang.reflect.Method;
import java.util.Arrays;

/** No call throws anything but what its own line of the document lists, whatever its arguments are. */
public final class ArgumentsTest {
    private static final int[] NUMBERS = {Integer.MIN_VALUE, Integer.MIN_VALUE + 1, -9999, -2, -1, 0, 1, 2, 3, 4, 5, 8, 11, 12, 13,
        15, 16, 17, 20, 21, 60, 61, 192, 300, 301, 700, 701, 9999, 1 << 30, Integer.MAX_VALUE - 1, Integer.MAX_VALUE};

    private static long seed = 4711;

    public static void main(String[] args) throws IllegalAccessException {
        Method[] methods = methods();
        for (int run = 0; run < 400; run++) {
            BarberParliament x = run % 2 == 0 ? new BarberParliament() : fullHouse();
            for (int call = 0; call < 450; call++) {
                Method method = methods[below(methods.length)];
                call(x, method, arguments(method));
            }
            Check.due("contradictions in run " + run, x.contradictions(), 0);
        }
        Check.end();
    }

    /** In an order of our own, as the machine's is free. */
    private static Method[] methods() {
        Method[] methods = Arrays.stream(BarberParliament.class.getMethods())
            .filter(m -> m.getDeclaringClass() == BarberParliament.class).toArray(Method[]::new);
        Arrays.sort(methods, (m, n) -> m.getName().compareTo(n.getName()));
        return methods;
    }

    private static int below(int bound) {
        seed = seed * 6364136223846793005L + 1442695040888963407L;
        return (int) ((seed >>> 33) % bound);
    }

    private static BarberParliament fullHouse() {
        StringBuilder setup = new StringBuilder("house 4 5 3 20 7 1 1;");
        for (char name = 'a'; name <= 'l'; name++) {
            setup.append("member zzzzz").append(name).append(" 9 ").append(2 * (name - 'a') % 21).append(" 99;");
        }
        BarberParliament x = Check.house(setup.toString());
        Check.runAll(x, "repeat 16 (propose zzzzza 10;);", 16);
        return x;
    }

    private static Object[] arguments(Method method) {
        Class<?>[] types = method.getParameterTypes();
        boolean isWild = below(3) == 0;
        Object[] arguments = new Object[types.length];
        for (int i = 0; i < types.length; i++) {
            int number = isWild ? NUMBERS[below(NUMBERS.length)] : below(16);
            arguments[i] = types[i] == boolean.class ? (Object) (below(2) == 0) : (Object) number;
        }
        return arguments;
    }

    private static void call(BarberParliament x, Method method, Object[] arguments) throws IllegalAccessException {
        String thrown = "nothing";
        try {
            method.invoke(x, arguments);
        } catch (InvocationTargetException e) {
            boolean isListed = Arrays.asList(method.getExceptionTypes()).contains(e.getCause().getClass());
            thrown = isListed ? "nothing" : e.getCause().toString();
        }
        Check.due(method.getName() + Arrays.toString(arguments) + " throws unlisted", thrown, "nothing");
    }
}
