import java.lang.reflect.Method;
import java.util.Map;
import java.util.Random;
import java.util.TreeMap;

/**
 * All promises: runs of calls, ordinary, at the edges and wrong, each answered by LensTable as by Model.
 * A call that is refused leaves the Model as it was; had it changed LensTable, the answers would part.
 */
public final class ModelTest {
    private static final Check check = new Check("ModelTest");
    private static final int RUNS = 700, CALLS = 512;

    /** For each call the least and the most that each of its numbers may be. */
    private static final Map<String, int[]> LIMITS = new TreeMap<>();

    static {
        limits("sheet", 0, 7, 0, 2, 0, 80);
        limits("set", 0, 7, 0, 79, -1000, 1000);
        limits("copy", 0, 7, 0, 80, 0, 7, 0, 80, 0, 80);
        limits("drop", 0, 7);
        limits("room", 0, 6, 0, 500);
        limits("bend", -8, 8, -50, 50);
        limits("told", 0, 23);
        limits("thing", -1000, 1000, -1000, 1000, 1, 5000);
        limits("move", 0, 23, -1000, 1000, -1000, 1000, 1, 5000);
        limits("picture", 0, 23, 0, 8);
        limits("focused", 0, 23, 0, 1);
        limits("bent");
        limits("mark", 0, 7, 0, 23, -1000, 1000, -1000, 1000);
        limits("rub", 0, 7, 0, 23);
        limits("draw", 0, 7);
        limits("marked", 0, 7, 0, 23, 0, 1);
        limits("joined", 0, 7, 0, 7, 0, 3);
        limits("round", 2, 8, 0, 2);
        limits("around", 2, 8, 0, 23, 0, 1);
        limits("stand", 0, 1, -1000, 1000, -1000, 1000, 0, 1000, 1, 1000);
        limits("far", -1000, 1000, -1000, 1000, 0, 1);
        limits("high", -1000, 1000, -1000, 1000, -1000, 1000);
        limits("span", -1000, 1000, -1000, 1000, 0, 20, 0, 1);
        limits("studio", 0, 7, 0, 7, 0, 79, 1, 20, 0, 19, 0, 20, 0, 1);
        limits("studios", 0, 7, 0, 7, 0, 79, 1, 20, 0, 20, 0, 2);
        limits("spot", 0, 364, -6, 6, 1, 1000, 0, 1);
        limits("days", -1200, 1200, 0, 3080, 1, 1000, 0, 3);
        limits("kind", 0, 23);
        limits("as", 0, 23, 0, 3);
        limits("ask", 0, 23, 0, 1);
        limits("trace", 0, 15);
        limits("count", 0, 7);
        limits("status");
    }

    private final Random random;
    /** How far from 0 numbers go in this run, and how many TRACES, SHEETS and MARKS it uses: few meet more often. */
    private final int reach, few;
    private final LensTable table = new LensTable();
    private final Model model = new Model();
    private final StringBuilder story = new StringBuilder();
    private int calls = 0;

    private static final Map<String, Integer> ordinary = new TreeMap<>();

    private ModelTest(long seed) {
        random = new Random(seed);
        reach = new int[] {3, 20, 150, 1000, 5000}[random.nextInt(5)];
        few = 1 + random.nextInt(8);
    }

    private static void limits(String call, int... limits) {
        LIMITS.put(call, limits);
    }

    public static void main(String[] args) {
        for (int run = 0; run < RUNS && check.wrong() < 20; run++) {
            new ModelTest(run).run();
        }
        for (Method call : Face.CALLS) {
            String name = call.getName();
            check.due(name + " is among the calls", LIMITS.containsKey(name));
            check.due(name + " had ordinary answers: " + ordinary.get(name), ordinary.getOrDefault(name, 0) >= 500);
        }
        check.end();
    }

    private void run() {
        if (random.nextInt(4) > 0) {
            begin();
        }
        while (calls < CALLS && check.wrong() < 20) {
            Method call = Face.CALLS.get(random.nextInt(Face.CALLS.size()));
            if (!isRare(call.getName()) || random.nextInt(8) == 0) {
                make(call, numbersFor(call.getName()));
            }
        }
    }

    /** Were SHEETS laid anew as often as they are used, there would be no STUDIOS on them. */
    private static boolean isRare(String name) {
        return name.equals("sheet") || name.equals("drop");
    }

    private void make(Method call, int... args) {
        calls++;
        story.append(Face.told(call, args)).append("; ");
        long want = Face.call(model, call, args);
        long got = Face.call(table, call, args);
        if (got != want) {
            System.out.println(story);
        }
        check.due(Face.told(call, args), got, want);
        if (want > -1000000) {
            ordinary.merge(call.getName(), 1, Integer::sum);
        }
    }

    private void make(String name, int... args) {
        for (Method call : Face.CALLS) {
            if (call.getName().equals(name)) {
                make(call, args);
            }
        }
    }

    /** A street, some traces of it, two rooms side by side and a sheet of studios. */
    private void begin() {
        int things = random.nextInt(25);
        for (int i = 0; i < things; i++) {
            make("thing", between(-reach, reach), between(-reach, reach), between(1, 2 + reach));
        }
        make("room", 0, random.nextBoolean() ? 0 : between(1, 500));
        make("stand", 0, between(-1000, 0), between(-99, 99), between(0, 50), between(1, 1000));
        make("stand", 1, between(1, 1000), between(-99, 99), between(0, 50), between(1, 1000));
        for (int i = 0; i < few; i++) {
            make("draw", i);
            make("room", 2, between(1, 1000));
        }
        for (int sheet = 0; sheet < few; sheet++) {
            layStudios(sheet);
        }
    }

    private void layStudios(int sheet) {
        int rows = 1 + random.nextInt(6);
        make("sheet", sheet, random.nextInt(3), 4 * rows);
        for (int i = 0; i < 4 * rows; i++) {
            make("set", sheet, i, item(i));
        }
    }

    private int item(int i) {
        if (i % 4 == 3) {
            return between(1, random.nextBoolean() ? 127 : 1000);
        }
        return i % 4 == 2 ? between(-reach, 1) : between(-reach, reach);
    }

    private int between(int least, int most) {
        int low = Math.max(least, -1000);
        int high = Math.min(most, 1000);
        return low + random.nextInt(high - low + 1);
    }

    private int[] numbersFor(String name) {
        int[] limits = LIMITS.get(name);
        int[] numbers = new int[limits.length / 2];
        boolean wrongOnes = random.nextInt(10) == 0;
        for (int i = 0; i < numbers.length; i++) {
            int least = limits[2 * i];
            int most = limits[2 * i + 1];
            numbers[i] = wrongOnes && random.nextInt(3) == 0 ? wrong(least, most) : right(least, most);
        }
        if (wrongOnes) {
            return numbers;
        }
        switch (name) {
            case "days": findableDays(numbers); break;
            case "set": numbers[2] = random.nextInt(6) == 0 ? random.nextInt() : item(numbers[1]); break;
            case "copy": smallCopy(numbers); break;
            case "studio": smallRows(numbers); numbers[4] = random.nextInt(numbers[3]); break;
            case "studios": smallRows(numbers); break;
            default: break;
        }
        if (name.equals("far") || name.equals("span") || name.equals("high")) {
            numbers[0] = random.nextBoolean() ? -Math.abs(numbers[0]) : numbers[0];
            numbers[1] = random.nextBoolean() ? Math.abs(numbers[1]) : numbers[1];
        }
        return numbers;
    }

    private int right(int least, int most) {
        int roll = random.nextInt(20);
        if (roll == 0) {
            return least;
        }
        if (roll == 1) {
            return most;
        }
        if (least == 0 && most == 7) {
            return random.nextInt(few);
        }
        if (roll < 14) {
            int low = Math.max(least, -reach);
            int high = Math.min(most, Math.max(least, reach));
            return low + random.nextInt(high - low + 1);
        }
        return least + random.nextInt(most - least + 1);
    }

    private int wrong(int least, int most) {
        switch (random.nextInt(6)) {
            case 0: return least - 1;
            case 1: return most + 1;
            case 2: return Integer.MIN_VALUE;
            case 3: return Integer.MAX_VALUE;
            case 4: return -1000000;
            default: return random.nextInt();
        }
    }

    private void smallCopy(int[] numbers) {
        numbers[1] = random.nextInt(8);
        numbers[3] = random.nextBoolean() ? numbers[1] + 4 : random.nextInt(8);
        numbers[4] = random.nextInt(13);
    }

    private void smallRows(int[] numbers) {
        numbers[2] = 4 * random.nextInt(3);
        numbers[3] = 1 + random.nextInt(4);
    }

    private void findableDays(int[] numbers) {
        if (numbers[2] >= 1 && numbers[2] <= 1000 && random.nextInt(3) > 0) {
            int day = random.nextInt(365);
            int hour = random.nextInt(13) - 6;
            numbers[0] = model.spot(day, hour, numbers[2], 0);
            numbers[1] = model.spot(day, hour, numbers[2], 1);
        }
        if (random.nextInt(3) == 0) {
            numbers[3] = -1000000;
        }
    }
}
