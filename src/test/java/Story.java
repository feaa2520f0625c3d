import java.lang.reflect.Method;
import java.util.ArrayList;
import java.util.List;

/** A run of calls that can be made again on a new object: two objects of one story can be held to one another. */
final class Story {
    private record Made(Method call, int[] numbers) { }

    private final List<Made> calls;

    Story() {
        this(List.of());
    }

    private Story(List<Made> calls) {
        this.calls = calls;
    }

    /** A longer story; this one stays as it is. */
    Story and(String name, int... numbers) {
        List<Made> longer = new ArrayList<>(calls);
        longer.add(new Made(Face.named(name), numbers.clone()));
        return new Story(longer);
    }

    Twin twin() {
        Twin twin = new Twin();
        for (Made made : calls) {
            twin.call(made.call, made.numbers);
        }
        return twin;
    }
}
