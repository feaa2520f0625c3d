import java.lang.management.ManagementFactory;
import java.lang.reflect.Array;
import java.lang.reflect.Field;
import java.lang.reflect.Modifier;
import java.util.Collections;
import java.util.IdentityHashMap;
import java.util.Set;

/** A new object is small, and its calls make none: all calls of a run live in one room. */
public final class FootprintTest {
    private static final Check check = new Check("FootprintTest");
    private static final int ROUNDS = 40;

    private int objects = 0;
    private int elements = 0;
    private final Set<Object> seen = Collections.newSetFromMap(new IdentityHashMap<>());

    public static void main(String[] args) throws IllegalAccessException {
        FootprintTest walk = new FootprintTest();
        walk.count(new LensTable());
        check.due("at most 150 objects: " + walk.objects, walk.objects <= 150);
        check.due("at most 2000 fields and elements: " + walk.elements, walk.elements <= 2000);
        callsMakeNothing();
        check.end();
    }

    private void count(Object o) throws IllegalAccessException {
        if (o == null || !seen.add(o)) {
            return;
        }
        objects++;
        if (o.getClass().isArray()) {
            elements += Array.getLength(o);
            for (int i = 0; i < Array.getLength(o) && !o.getClass().getComponentType().isPrimitive(); i++) {
                count(Array.get(o, i));
            }
            return;
        }
        for (Field f : o.getClass().getDeclaredFields()) {
            if (!Modifier.isStatic(f.getModifiers())) {
                elements++;
                f.setAccessible(true);
                if (!f.getType().isPrimitive()) {
                    count(f.get(o));
                }
            }
        }
    }

    private static void callsMakeNothing() {
        com.sun.management.ThreadMXBean threads = (com.sun.management.ThreadMXBean) ManagementFactory.getThreadMXBean();
        long id = Thread.currentThread().getId();
        LensTable[] tables = new LensTable[ROUNDS];
        for (int i = 0; i < ROUNDS; i++) {
            tables[i] = new LensTable();
        }
        story(new LensTable());
        long ahead = threads.getThreadAllocatedBytes(id);
        long answers = 0;
        for (int i = 0; i < ROUNDS; i++) {
            answers += story(tables[i]);
        }
        long made = threads.getThreadAllocatedBytes(id) - ahead;
        check.due("the stories answer", answers != 0);
        // what asking for the number itself makes is far below one object for each story
        check.due("bytes made by all calls: " + made, made < 16L * ROUNDS);
    }

    private static long story(LensTable t) {
        long sum = 0;
        for (int i = 0; i < 24; i++) {
            sum += t.thing(30 * i - 300, 9 * i - 100, 50 + 20 * i) + t.mark(i % 8, i, i, -i) + t.rub(0, 0);
        }
        sum += t.room(0, 40) + t.bent() + t.bend(0, 3) + t.told(15);
        for (int i = 0; i < 8; i++) {
            sum += t.draw(i) + t.joined(0, i, 3) + t.around(8, i, 0) + t.round(2, 2) + t.marked(i, i, 0);
            sum += t.sheet(i, 2, 80) + t.set(i, 3, 100) + t.copy(i, 0, i, 4, 76) + t.count(i) + t.move(i, i, i, 9);
            sum += t.picture(i, i) + t.focused(i, 0) + t.kind(i) + t.as(i, 0) + t.ask(i, 1) + t.trace(i) + t.status();
            sum += t.studio(i, i, 0, 1, 0, 3, 0) + t.studios(i, i, 0, 1, 3, 2) + t.spot(i, 3, 100, 1) + t.days(i, 60, 10, 0);
        }
        sum += t.stand(1, 60, 0, 0, 100) + t.far(-20, 40, 0) + t.high(-20, 40, 3) + t.span(-20, 40, 3, 1) + t.drop(0);
        return sum;
    }
}
