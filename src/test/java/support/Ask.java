import java.lang.reflect.InvocationTargetException;
import java.lang.reflect.Method;
import java.util.HashMap;
import java.util.Map;

/** Calls by name, of the class and of the second writing alike. */
final class Ask {
    private static final Map<String, Method> FOUND = new HashMap<>();

    private Ask() {
    }

    /** The answer; what a call throws is told and answered as one that is never due. */
    static int ask(Object target, String name, long... args) {
        Method method = FOUND.computeIfAbsent(target.getClass().getName() + " " + name + " " + args.length,
            key -> find(target.getClass(), name, args.length));
        Class<?>[] kinds = method.getParameterTypes();
        Object[] boxed = new Object[args.length];
        for (int i = 0; i < args.length; i++) {
            if (kinds[i] == long.class) {
                boxed[i] = args[i];
            } else {
                boxed[i] = Math.toIntExact(args[i]);
            }
        }
        try {
            return (Integer) method.invoke(target, boxed);
        } catch (InvocationTargetException e) {
            e.getCause().printStackTrace(System.out);
            return Integer.MIN_VALUE;
        } catch (IllegalAccessException e) {
            throw new IllegalStateException(name, e);
        }
    }

    private static Method find(Class<?> kind, String name, int many) {
        for (Method method : kind.getDeclaredMethods()) {
            if (method.getName().equals(name) && method.getParameterCount() == many
                    && method.getReturnType() == int.class) {
                return method;
            }
        }
        throw new IllegalArgumentException("no call " + name + " of " + many);
    }
}
