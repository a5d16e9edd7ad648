import java.lang.reflect.InvocationTargetException;
import java.lang.reflect.Method;
import java.util.ArrayList;
import java.util.Arrays;
import java.util.Comparator;
import java.util.List;
import java.util.Random;

/** Calls of all methods of the face, by chance but the same ones each time, with numbers near and far. */
final class EveryCall {
    private static final int[] FAR = {-1, Integer.MIN_VALUE, Integer.MAX_VALUE, Integer.MIN_VALUE + 1, 20, 21, 31, 32, 33, 255,
        256, 1439, 1440, 1441, 2000, 2001, 99999, 100000};
    private static final List<Method> METHODS = methods();

    private final BadgeZones x = new BadgeZones();
    private final Random random;

    private EveryCall(int run) {
        random = new Random(run);
    }

    /** So many calls on one object: each one ends, and throws nothing but what the face names, by a throw of its own. */
    static void throwOnlyWhatTheFaceNames(int run, int calls) {
        EveryCall every = new EveryCall(run);
        for (int call = 1; call <= calls; call++) {
            every.callOne("run " + run + ", call " + call + ": ");
        }
    }

    private static List<Method> methods() {
        List<Method> methods = new ArrayList<>();
        for (Method method : BadgeZones.class.getMethods()) {
            if (method.getDeclaringClass() == BadgeZones.class) {
                methods.add(method);
            }
        }
        // The machine gives them in no order.
        methods.sort(Comparator.comparing(Method::getName));
        return methods;
    }

    private void callOne(String when) {
        Method method = METHODS.get(random.nextInt(METHODS.size()));
        Object[] arguments = new Object[method.getParameterCount()];
        for (int i = 0; i < arguments.length; i++) {
            arguments[i] = argument(method.getParameterTypes()[i]);
        }
        String call = when + method.getName() + Arrays.toString(arguments);
        try {
            method.invoke(x, arguments);
        } catch (InvocationTargetException e) {
            Throwable thrown = e.getCause();
            Check.is(call + " throws " + thrown, isNamed(method, thrown), true);
            Check.is(call + " throws by itself", Check.isThrownByTheProgram(thrown), true);
        } catch (IllegalAccessException e) {
            Check.is(call + " can be called", false, true);
        }
    }

    private Object argument(Class<?> type) {
        if (type == boolean.class) {
            return random.nextBoolean();
        }
        return switch (random.nextInt(8)) {
            case 0 -> FAR[random.nextInt(FAR.length)];
            case 1 -> random.nextInt(1441);
            default -> random.nextInt(10);
        };
    }

    private static boolean isNamed(Method method, Throwable thrown) {
        return Arrays.asList(method.getExceptionTypes()).contains(thrown.getClass());
    }
}
