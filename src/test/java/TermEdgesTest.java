import java.lang.reflect.Method;
import java.util.Random;

/** The boundaries that the document names for all calls alike: how many calls, the order of refusals, what is cut. */
public final class TermEdgesTest {
    private static final Check check = new Check("TermEdgesTest");
    private static final int MIN = Integer.MIN_VALUE, MAX = Integer.MAX_VALUE;
    private static final int CALLS_MOST = 512, CALLS_FREE = 20000;

    public static void main(String[] args) {
        lastCallThatIsPromised();
        laterCallsThrowNothing();
        oddNumbersThrowNothing();
        numbersGoFromZeroOn();
        badAheadOfFull();
        badAheadOfFindings();
        findingsByTheirNumbers();
        findingsInTime();
        refusedAgainAndAgain();
        cutTowardsZero();
        check.end();
    }

    private static Edge edge(String sentence) {
        return new Edge(check, sentence);
    }

    /** "An object is used for at most 512 calls after it has been made". */
    private static void lastCallThatIsPromised() {
        LensTable t = new LensTable();
        for (int i = 0; i < CALLS_MOST - 1; i++) {
            switch (i % 4) {
                case 0: check.due("call " + i + ": sheet", t.sheet(i % 8, 2, i % 81), i % 81); break;
                case 1: check.due("call " + i + ": bend", t.bend(0, i % 51) >= 0); break;
                case 2: check.due("call " + i + ": thing", t.thing(0, 0, 1 + i), i / 4 < 24 ? i / 4 : Check.FULL); break;
                default: check.due("call " + i + ": drop", t.drop(8), Check.BAD); break;
            }
        }
        check.due("call 512: count(1)", t.count(1), 24);
        t = new LensTable();
        for (int i = 0; i < CALLS_MOST - 1; i++) {
            check.due("call " + i + ": room", t.room(2, 1 + i), i == 0 ? 100 : i);
        }
        check.due("call 512: told", t.told(2), CALLS_MOST - 1);
    }

    /** "what later calls answer is free": but none may throw. */
    private static void laterCallsThrowNothing() {
        LensTable t = new LensTable();
        Random random = new Random(1);
        for (int i = 0; i < CALLS_FREE; i++) {
            Method call = Face.CALLS.get(random.nextInt(Face.CALLS.size()));
            int[] numbers = new int[call.getParameterCount()];
            for (int k = 0; k < numbers.length; k++) {
                numbers[k] = random.nextInt(5) == 0 ? random.nextInt(2001) - 1000 : random.nextInt(24);
            }
            Face.call(t, call, numbers);
        }
        check.due("all of them answered", true);
    }

    /** All of one call's numbers are drawn from the ends of what there is, in states where much is there. */
    private static void oddNumbersThrowNothing() {
        int[] ends = {MIN, MIN + 1, -1000001, -1000000, -1001, -1000, -50, -9, -8, -1, 0, 1, 3, 7, 8, 23, 24, 50, 79, 80, 81, 1000, 1001,
            5000, 5001, MAX - 3, MAX - 1, MAX};
        Random random = new Random(2);
        for (int run = 0; run < 200; run++) {
            LensTable t = new LensTable();
            for (int i = 0; i < 20; i++) {
                t.thing(i, i, 1 + i);
                t.sheet(i % 8, i % 3, 4 * i);
                t.draw(i % 8);
            }
            for (int i = 60; i < CALLS_MOST; i++) {
                Method call = Face.CALLS.get(random.nextInt(Face.CALLS.size()));
                int[] numbers = new int[call.getParameterCount()];
                for (int k = 0; k < numbers.length; k++) {
                    numbers[k] = ends[random.nextInt(ends.length)];
                }
                Face.call(t, call, numbers);
            }
        }
        check.due("all of them answered", true);
    }

    private static void numbersGoFromZeroOn() {
        edge("Numbers go from 0 on").taken(0, "thing", 0, 0, 1).then(1, "thing", 0, 0, 1).then(0, "picture", 0, 0)
            .given("thing", 5, 6, 7).given("ask", 0, 0).given("sheet", 0, 2, 4).given("set", 0, 3, 1).given("mark", 0, 0, 0, 0)
            .taken(5, "picture", 0, 0).bad("picture", 1, 0).taken(0, "marked", 0, 0, 0).taken(11, "trace", 0)
            .taken(9, "set", 0, 0, 9).taken(0, "studio", 0, 0, 0, 1, 0, 0, 0).taken(0, "studios", 0, 0, 0, 1, 0, 0)
            .taken(17250, "days", 0, 500, 1000, 0).taken(0, "told", 0).taken(1, "count", 0);
    }

    private static void badAheadOfFull() {
        Edge e = edge("the first of these that fits: BAD, then FULL");
        for (int i = 0; i < 24; i++) {
            e.given("thing", 0, 0, 1);
        }
        e.full("thing", 0, 0, 1).bad("thing", 1001, 0, 1).bad("thing", 0, 1001, 1).bad("thing", 0, 0, 0).bad("thing", MIN, MIN, MIN);
    }

    /** Each call that may have a FINDING, with a number that is off as well. */
    private static void badAheadOfFindings() {
        edge("the first of these that fits: BAD, then FINDINGS").given("sheet", 0, 2, 4).given("sheet", 1, 1, 4).given("thing", 0, 0, 1)
            .finds(Check.SIZE, "sheet", 0, 2, -1).bad("sheet", 0, 3, -1)
            .finds(Check.NULL, "set", 2, 0, 0).bad("set", 8, 0, 0).finds(Check.PLACE, "set", 0, 4, 0).bad("set", 8, 4, 0)
            .finds(Check.NULL, "copy", 2, 0, 0, 0, 1).bad("copy", 2, 0, 8, 0, 1)
            .finds(Check.STORE, "copy", 0, 0, 1, 0, 1).bad("copy", 0, 0, 8, 0, 1)
            .finds(Check.PLACE, "copy", 0, 4, 0, 0, 1).bad("copy", 0, 4, 8, 0, 1)
            .finds(Check.NULL, "drop", 2).bad("drop", 8)
            .finds(Check.KIND, "as", 0, 2).bad("as", 1, 2).bad("as", 0, 4)
            .finds(Check.NULL, "studio", 0, 2, 0, 1, 0, 0, 0).bad("studio", 8, 2, 0, 1, 0, 0, 0)
            .finds(Check.PLACE, "studios", 0, 0, 1, 1, 0, 0).bad("studios", 8, 0, 1, 1, 0, 0);
    }

    private static void findingsByTheirNumbers() {
        edge("FINDINGS: -1000010 less 1 NULL, 2 PLACE, 3 KIND, 4 SIZE, 5 STORE")
            .given("sheet", 0, 2, 4).given("sheet", 1, 1, 4).given("thing", 0, 0, 1)
            .finds(-1000011, "drop", 2).then(1, "status").finds(-1000012, "set", 0, 4, 0).then(2, "status")
            .finds(-1000013, "as", 0, 2).then(3, "status").finds(-1000014, "sheet", 0, 2, -1).then(4, "status")
            .finds(-1000015, "copy", 0, 0, 1, 0, 1).then(5, "status");
    }

    private static void findingsInTime() {
        edge("FINDINGS, of several the first in time").given("sheet", 0, 2, 4).given("sheet", 1, 1, 4)
            .finds(Check.NULL, "set", 2, -1, 0).finds(Check.NULL, "set", 2, 80, 0)
            .finds(Check.NULL, "copy", 0, -1, 2, 0, 1).finds(Check.NULL, "copy", 2, 0, 1, 0, 99)
            .finds(Check.STORE, "copy", 0, -1, 1, 0, 1).finds(Check.STORE, "copy", 0, 0, 1, 4, 1).finds(Check.STORE, "copy", 0, 0, 1, 0, -1)
            .finds(Check.NULL, "studio", 0, 2, -1, 1, 0, 0, 0).finds(Check.NULL, "studios", 0, 2, 80, 20, 0, 0)
            .finds(Check.PLACE, "studio", 0, 0, 1, 1, 0, 0, 0).bad("studio", 0, 0, 0, 1, 0, 0, 0);
    }

    /** Each time it is the same, for as long as an object is used. */
    private static void refusedAgainAndAgain() {
        LensTable t = new LensTable();
        t.sheet(0, 2, 4);
        t.set(0, 3, 100);
        for (int i = 0; i < 24; i++) {
            t.thing(0, 0, 100);
        }
        for (int i = 0; i < 80; i++) {
            check.due("thing, once more", t.thing(1, 1, 1), Check.FULL);
            check.due("set, once more", t.set(0, 4, 9), Check.PLACE);
            check.due("sheet, once more", t.sheet(0, 2, -1), Check.SIZE);
            check.due("drop, once more", t.drop(1), Check.NULL);
        }
        check.due("24 of them", t.count(1), 24);
        check.due("where it was", t.picture(23, 0), 0);
        check.due("a STUDIO still", t.studio(0, 0, 0, 1, 0, 0, 0), 0);
        check.due("four ITEMS", t.drop(0), 4);
    }

    /** Each quotient of the document that may be below 0, once on each side of 0 and once on each side of 1. */
    private static void cutTowardsZero() {
        String sentence = "All that is divided is cut towards 0";
        int[][] places = {{99, 0}, {100, 1}, {101, 1}, {199, 1}, {200, 2}, {-99, 0}, {-100, -1}, {-101, -1}, {-199, -1}, {-200, -2}};
        for (int[] p : places) {
            Edge e = edge(sentence + ": FIRST, X, Y").given("room", 2, 1).given("thing", -p[0], -p[0], 100);
            e.taken(p[1], "picture", 0, 3).taken(p[1], "picture", 0, 6).taken(p[1], "picture", 0, 7);
            e.given("room", 3, 1).taken(-p[1], "picture", 0, 7).taken(p[1], "picture", 0, 6);
            Edge studio = edge(sentence + ": X, Y of a STUDIO").given("thing", 0, 0, 100).given("sheet", 0, 2, 4).given("set", 0, 0, p[0])
                .given("set", 0, 1, p[0]).given("set", 0, 3, 1).given("mark", 0, 0, p[1], p[1]);
            studio.taken(1, "studio", 0, 0, 0, 1, 0, 0, 1);
            // UPPER and LOWER are the same, and d is 100
            edge(sentence + ": HIGH").given("stand", 1, 1, 0, 0, 100).taken(p[1], "high", 0, 100, -p[0]);
        }
        edge(sentence + ": BLUR").given("thing", 0, 0, 100).given("room", 1, 1).given("room", 2, 99).taken(1, "picture", 0, 8)
            .given("room", 2, 100).taken(2, "picture", 0, 8).given("room", 0, 50).given("room", 2, 199).taken(0, "picture", 0, 8)
            .given("room", 2, 200).taken(1, "picture", 0, 8).given("room", 2, 1).taken(0, "picture", 0, 8);
        edge(sentence + ": SPAN").given("stand", 1, 3, 0, 0, 100).taken(150, "span", 0, 2, 0, 0).given("stand", 1, 1, 0, 0, 1)
            .taken(1, "span", 0, 1, 0, 0).given("stand", 0, 0, 0, 0, 1).given("stand", 1, 5, 0, 0, 1).taken(1, "span", 0, 3, 0, 0)
            .taken(1, "span", 0, 5, 0, 0).taken(0, "span", 0, 6, 0, 0).taken(2, "span", 0, 2, 0, 0);
    }
}
