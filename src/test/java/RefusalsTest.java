import java.lang.reflect.Method;
import java.util.ArrayList;
import java.util.List;

/**
 * A call that is refused, or has a FINDING, changes nothing but status(), and status() only by a FINDING.
 * Two objects of the same story, one with the refused call behind it, are looked at from all sides.
 */
public final class RefusalsTest {
    private static final Check check = new Check("RefusalsTest");
    private static final int[] ODD = {Integer.MIN_VALUE, -70000, -1001, -51, -9, -1, 24, 81, 1001, 5001, Integer.MAX_VALUE};

    private static int refused = 0;

    public static void main(String[] args) {
        long[] as = look(story());
        for (Method call : Face.CALLS) {
            for (int[] numbers : wrongNumbers(call)) {
                holdTo(as, call, numbers);
            }
        }
        check.due("many were refused: " + refused, refused > 1500);
        check.end();
    }

    private static void holdTo(long[] as, Method call, int[] numbers) {
        LensTable table = story();
        int status = table.status();
        long answer = Face.call(table, call, numbers);
        // what has a low answer is refused, or found; all others may change what they will
        if (answer > -1000000 || answer < -1000015) {
            return;
        }
        refused++;
        String told = Face.told(call, numbers) + " that answered " + answer;
        boolean found = answer <= -1000011;
        check.due("status() after " + told, table.status(), found ? -1000010 - answer : status);
        long[] after = look(table);
        for (int i = 0; i < as.length; i++) {
            check.due("look " + i + " after " + told, after[i], as[i]);
        }
    }

    /** A rich state: SHEETS of each LANE, 24 THINGS, TRACES, rooms, an ask and a FINDING behind it. */
    private static LensTable story() {
        LensTable t = new LensTable();
        t.room(0, 60);
        t.bend(1, 7);
        t.bend(-3, -9);
        for (int i = 0; i < 24; i++) {
            t.thing(40 * i - 500, 13 * i - 150, 60 + 37 * i);
        }
        t.draw(0);
        t.room(2, 110);
        t.draw(1);
        t.room(3, 1);
        t.draw(2);
        t.mark(5, 3, 9, 9);
        t.stand(0, -20, 5, 3, 90);
        t.stand(1, 40, 6, 4, 80);
        t.sheet(0, 2, 12);
        t.sheet(1, 1, 8);
        t.sheet(2, 0, 4);
        t.sheet(3, 2, 0);
        for (int i = 0; i < 12; i++) {
            t.set(0, i, i % 4 == 3 ? 100 + i : 5 * i - 20);
        }
        t.set(1, 3, 300);
        t.set(1, 4, -50);
        t.set(1, 7, 500);
        t.set(2, 3, 77);
        t.ask(3, 0);
        t.sheet(7, 2, -1);
        return t;
    }

    private static long[] look(LensTable t) {
        List<Long> seen = new ArrayList<>();
        for (int i = -1; i < 17; i++) {
            seen.add((long) t.trace(i));
        }
        for (int i = 0; i < 24; i++) {
            seen.add((long) t.told(i));
            seen.add((long) t.picture(i, i % 3));
            seen.add((long) t.ask(i, 1));
            seen.add((long) t.marked(i % 3, i, 0));
            seen.add((long) t.marked((i + 1) % 3, i, 1));
            seen.add((long) t.around(3, i, i % 2));
        }
        for (int i = 0; i < 8; i++) {
            seen.add((long) t.count(i));
            seen.add((long) t.joined(i, 5, 3));
            seen.add(t.span(-30, 40 + i, 2, i % 2));
            seen.add(t.high(-30, 40 + i, 9));
            for (int sheet = 0; sheet < 4; sheet++) {
                seen.add((long) t.studio(0, sheet, i, 1, 0, 0, 0));
                seen.add((long) t.copy(sheet, i, sheet, i, 0));
            }
        }
        seen.add((long) t.studio(0, 0, 8, 1, 0, 0, 0));
        for (int sheet = 0; sheet < 8; sheet++) {
            seen.add((long) t.copy(0, 0, sheet, 0, 0));
            seen.add((long) t.drop(sheet));
        }
        return seen.stream().mapToLong(Long::longValue).toArray();
    }

    /** Numbers that are mostly fine, with one of them odd at a time, then all of them. */
    private static List<int[]> wrongNumbers(Method call) {
        int many = call.getParameterCount();
        List<int[]> all = new ArrayList<>();
        int[] bases = {0, 1, 3, 5};
        for (int base : bases) {
            for (int i = 0; i < many; i++) {
                for (int odd : ODD) {
                    int[] numbers = new int[many];
                    java.util.Arrays.fill(numbers, base);
                    numbers[i] = odd;
                    all.add(numbers);
                }
            }
        }
        for (int odd : ODD) {
            int[] numbers = new int[many];
            java.util.Arrays.fill(numbers, odd);
            all.add(numbers);
        }
        return all;
    }
}
