import java.lang.reflect.Method;
import java.util.ArrayList;
import java.util.Comparator;
import java.util.List;

/** The document's calls by their names, on a LensTable or on a Model. */
final class Face {
    static final List<Method> CALLS = callsOf(LensTable.class);

    private Face() { }

    private static List<Method> callsOf(Class<?> type) {
        List<Method> calls = new ArrayList<>();
        for (Method m : type.getDeclaredMethods()) {
            if (java.lang.reflect.Modifier.isPublic(m.getModifiers())) {
                calls.add(m);
            }
        }
        calls.sort(Comparator.comparing(Method::getName));
        return calls;
    }

    static Method named(String name) {
        for (Method m : CALLS) {
            if (m.getName().equals(name)) {
                return m;
            }
        }
        throw new IllegalArgumentException("the document has no call " + name);
    }

    static long call(Object on, Method call, int[] args) {
        Object[] boxed = new Object[args.length];
        for (int i = 0; i < args.length; i++) {
            boxed[i] = args[i];
        }
        try {
            Method m = on.getClass() == call.getDeclaringClass() ? call
                : on.getClass().getDeclaredMethod(call.getName(), call.getParameterTypes());
            return ((Number) m.invoke(on, boxed)).longValue();
        } catch (ReflectiveOperationException e) {
            throw new IllegalStateException(told(call, args) + " threw " + e.getCause(), e);
        }
    }

    static String told(Method call, int[] args) {
        StringBuilder text = new StringBuilder(call.getName()).append('(');
        for (int i = 0; i < args.length; i++) {
            text.append(i == 0 ? "" : ", ").append(args[i]);
        }
        return text.append(')').toString();
    }
}
