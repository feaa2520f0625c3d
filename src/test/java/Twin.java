import java.lang.reflect.Method;
import java.util.List;

/** An object whose calls are counted, since behind the 512th nothing is promised and a test would hold nothing. */
final class Twin {
    private static final int CALLS_MOST = 512;

    private final LensTable table = new LensTable();
    private int calls = 0;

    long call(Method call, int... numbers) {
        calls++;
        if (calls > CALLS_MOST) {
            throw new IllegalStateException("a test makes more than " + CALLS_MOST + " calls on one object");
        }
        return Face.call(table, call, numbers);
    }

    long call(String name, int... numbers) {
        return call(Face.named(name), numbers);
    }

    void show(List<String> seen, String name, int... numbers) {
        Method call = Face.named(name);
        seen.add(Face.told(call, numbers) + " answers " + call(call, numbers));
    }
}
