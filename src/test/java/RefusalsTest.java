import java.lang.reflect.Method;
import java.util.ArrayList;
import java.util.Arrays;
import java.util.List;

/**
 * A call that is refused, or has a FINDING, changes nothing but status(), and status() only by a FINDING:
 * every call with odd numbers in each place, in a state where there is something of all there can be.
 */
public final class RefusalsTest {
    private static final Check check = new Check("RefusalsTest");
    private static final int[] ODD = {Integer.MIN_VALUE, -70000, -1001, -51, -9, -1, 24, 81, 1001, 5001, Integer.MAX_VALUE};
    private static final int STATUS_AHEAD = 4;

    private static int refused = 0;

    public static void main(String[] args) {
        Story story = story();
        List<String> ahead = Look.at(story);
        for (Method call : Face.CALLS) {
            for (int[] numbers : wrongNumbers(call)) {
                holdTo(story, ahead, call, numbers);
            }
        }
        check.due("many were refused: " + refused, refused > 1500);
        check.end();
    }

    private static void holdTo(Story story, List<String> ahead, Method call, int[] numbers) {
        Twin twin = story.twin();
        long answer = twin.call(call, numbers);
        // what has a low answer is refused, or found; all others may change what they will
        if (answer > -1000000 || answer < -1000015) {
            return;
        }
        refused++;
        String told = Face.told(call, numbers) + " that answered " + answer;
        boolean found = answer <= -1000011;
        check.due("status() after " + told, twin.call("status"), found ? -1000010 - answer : STATUS_AHEAD);
        List<String> after = Look.at(story.and(call.getName(), numbers));
        check.due("as much is seen after " + told, after.size(), ahead.size());
        for (int i = 0; i < Math.min(after.size(), ahead.size()); i++) {
            check.due(after.get(i) + " after " + told + ", ahead of it: " + ahead.get(i), after.get(i).equals(ahead.get(i)));
        }
    }

    /** A rich state: SHEETS of each LANE, 24 THINGS, TRACES, rooms, an ask and a FINDING behind it. */
    private static Story story() {
        Story s = new Story().and("room", 0, 60).and("bend", 1, 7).and("bend", -3, -9);
        for (int i = 0; i < 24; i++) {
            s = s.and("thing", 40 * i - 500, 13 * i - 150, 60 + 37 * i);
        }
        s = s.and("draw", 0).and("room", 2, 110).and("draw", 1).and("room", 3, 1).and("draw", 2).and("mark", 5, 3, 9, 9);
        s = s.and("stand", 0, -20, 5, 3, 90).and("stand", 1, 40, 6, 4, 80);
        s = s.and("sheet", 0, 2, 12).and("sheet", 1, 1, 8).and("sheet", 2, 0, 4).and("sheet", 3, 2, 0);
        for (int i = 0; i < 12; i++) {
            s = s.and("set", 0, i, i % 4 == 3 ? 100 + i : 5 * i - 20);
        }
        s = s.and("set", 1, 3, 300).and("set", 1, 4, -50).and("set", 1, 7, 500).and("set", 2, 3, 77);
        return s.and("ask", 3, 0).and("sheet", 7, 2, -1);
    }

    /** Numbers that are mostly fine, with one of them odd at a time, then all of them. */
    private static List<int[]> wrongNumbers(Method call) {
        int many = call.getParameterCount();
        List<int[]> all = new ArrayList<>();
        int[] bases = {0, 1, 3, 5};
        for (int base : bases) {
            for (int i = 0; i < many; i++) {
                for (int odd : ODD) {
                    int[] numbers = new int[many];
                    Arrays.fill(numbers, base);
                    numbers[i] = odd;
                    all.add(numbers);
                }
            }
        }
        for (int odd : ODD) {
            int[] numbers = new int[many];
            Arrays.fill(numbers, odd);
            all.add(numbers);
        }
        return all;
    }
}
