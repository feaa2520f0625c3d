/** Promises 14 to 20. */
public final class TracesTest {
    private static final Check check = new Check("TracesTest");
    private static final int MIN = Integer.MIN_VALUE, MAX = Integer.MAX_VALUE;

    public static void main(String[] args) {
        promise14Mark();
        promise15Rub();
        promise16Draw();
        promise16DrawAnew();
        promise17Marked();
        promise18Joined();
        promise18OfSeveralTheLeast();
        promise18AllMarks();
        promise18Refused();
        promise19RoundOfTwo();
        promise19And20RoundOfEight();
        promise19NothingInCommon();
        promise19And20Refused();
        check.end();
    }

    private static void dueMark(LensTable t, int trace, int number, long x, long y) {
        check.due("x of mark " + number + " of " + trace, t.marked(trace, number, 0), x);
        check.due("y of mark " + number + " of " + trace, t.marked(trace, number, 1), y);
    }

    private static void promise14Mark() {
        LensTable t = new LensTable();
        check.due("mark", t.mark(0, 0, -1000, 1000), 1);
        check.due("mark", t.mark(7, 23, 1000, -1000), 1);
        check.due("mark again", t.mark(0, 0, 3, 4), 0);
        check.due("mark at the same place", t.mark(0, 0, 3, 4), 0);
        dueMark(t, 0, 0, 3, 4);
        dueMark(t, 7, 23, 1000, -1000);
        int[][] bad = {{-1, 0, 0, 0}, {8, 0, 0, 0}, {0, -1, 0, 0}, {0, 24, 0, 0}, {0, 0, -1001, 0}, {0, 0, 1001, 0},
            {0, 0, 0, -1001}, {0, 0, 0, 1001}, {MIN, 0, 0, 0}, {MAX, 0, 0, 0}, {0, MIN, 0, 0}, {0, MAX, 0, 0},
            {0, 0, MIN, 0}, {0, 0, MAX, 0}, {0, 0, 0, MIN}, {0, 0, 0, MAX}};
        for (int[] b : bad) {
            check.due("mark(" + b[0] + ", " + b[1] + ", " + b[2] + ", " + b[3] + ")", t.mark(b[0], b[1], b[2], b[3]), Check.BAD);
        }
        dueMark(t, 0, 0, 3, 4);
        check.due("count(5)", t.count(5), 2);
        check.due("count(6)", t.count(6), 2);
    }

    private static void promise15Rub() {
        LensTable t = new LensTable();
        check.due("rub, none", t.rub(0, 0), 0);
        t.mark(0, 0, 3, 4);
        t.mark(0, 23, 5, 6);
        t.mark(1, 0, 7, 8);
        check.due("rub", t.rub(0, 0), 1);
        check.due("rub again", t.rub(0, 0), 0);
        dueMark(t, 0, 0, Check.NONE, Check.NONE);
        dueMark(t, 0, 23, 5, 6);
        dueMark(t, 1, 0, 7, 8);
        check.due("mark after it", t.mark(0, 0, 9, 9), 1);
        int[][] bad = {{-1, 0}, {8, 0}, {0, -1}, {0, 24}, {MIN, 0}, {MAX, 0}, {0, MIN}, {0, MAX}};
        for (int[] b : bad) {
            check.due("rub(" + b[0] + ", " + b[1] + ")", t.rub(b[0], b[1]), Check.BAD);
        }
        check.due("count(5)", t.count(5), 3);
    }

    private static void promise16Draw() {
        LensTable t = new LensTable();
        t.thing(160, 0, 100);
        t.thing(161, 0, 100);
        t.thing(-160, 100, 100);
        t.thing(0, 101, 100);
        t.thing(0, -100, 100);
        t.thing(-161, 0, 100);
        t.thing(0, -101, 100);
        t.mark(3, 1, 5, 5);
        t.mark(3, 20, 6, 6);
        t.mark(4, 20, 7, 7);
        check.due("draw", t.draw(3), 3);
        dueMark(t, 3, 0, -160, 0);
        dueMark(t, 3, 1, Check.NONE, Check.NONE);
        dueMark(t, 3, 2, 160, -100);
        dueMark(t, 3, 3, Check.NONE, Check.NONE);
        dueMark(t, 3, 4, 0, 100);
        dueMark(t, 3, 5, Check.NONE, Check.NONE);
        dueMark(t, 3, 6, Check.NONE, Check.NONE);
        dueMark(t, 3, 20, Check.NONE, Check.NONE);
        dueMark(t, 4, 20, 7, 7);
        int[] none = {-1, 8, MIN, MAX};
        for (int trace : none) {
            check.due("draw(" + trace + ")", t.draw(trace), Check.BAD);
        }
        check.due("count(5)", t.count(5), 4);
    }

    private static void promise16DrawAnew() {
        LensTable t = new LensTable();
        t.thing(200, 50, 400);
        t.room(0, 80);
        check.due("it is sharp", t.kind(0), 2);
        check.due("draw a sharp one", t.draw(0), 1);
        dueMark(t, 0, 0, -50, -12);
        t.room(3, 1);
        t.bend(-2, 20);
        dueMark(t, 0, 0, -50, -12);
        check.due("draw by mirror and bend", t.draw(0), 1);
        dueMark(t, 0, 0, -60, 15);
        t.room(6, 14);
        check.due("draw, nothing is seen", t.draw(0), 0);
        dueMark(t, 0, 0, Check.NONE, Check.NONE);
        check.due("count(6)", t.count(6), 0);
    }

    private static void promise17Marked() {
        LensTable t = new LensTable();
        t.mark(2, 5, -3, 8);
        dueMark(t, 2, 5, -3, 8);
        dueMark(t, 2, 4, Check.NONE, Check.NONE);
        dueMark(t, 5, 2, Check.NONE, Check.NONE);
        int[][] bad = {{-1, 5, 0}, {8, 5, 0}, {2, -1, 0}, {2, 24, 0}, {2, 5, -1}, {2, 5, 2}, {2, 4, 2}, {MIN, 5, 0}, {MAX, 5, 0},
            {2, MIN, 0}, {2, MAX, 0}, {2, 5, MIN}, {2, 5, MAX}};
        for (int[] b : bad) {
            check.due("marked(" + b[0] + ", " + b[1] + ", " + b[2] + ")", t.marked(b[0], b[1], b[2]), Check.BAD);
        }
    }

    private static void dueJoined(LensTable t, int a, int b, long many, long x, long y, long misfit) {
        String names = " of " + a + " to " + b;
        check.due("common" + names, t.joined(a, b, 0), many);
        check.due("shift in x" + names, t.joined(a, b, 1), x);
        check.due("shift in y" + names, t.joined(a, b, 2), y);
        check.due("misfit" + names, t.joined(a, b, 3), misfit);
    }

    private static void promise18Joined() {
        LensTable t = new LensTable();
        dueJoined(t, 0, 1, 0, Check.NONE, Check.NONE, Check.NONE);
        t.mark(0, 0, 1000, -1000);
        t.mark(1, 1, 5, 5);
        dueJoined(t, 0, 1, 0, Check.NONE, Check.NONE, Check.NONE);
        dueJoined(t, 0, 0, 1, 0, 0, 0);
        t.mark(1, 0, -1000, 1000);
        dueJoined(t, 0, 1, 1, 2000, -2000, 0);
        dueJoined(t, 1, 0, 1, -2000, 2000, 0);
        t.mark(0, 1, 5, 5);
        t.mark(0, 2, 7, -7);
        t.mark(1, 2, 6, -6);
        dueJoined(t, 0, 1, 3, 1, -1, 1 + 1999 + 1 + 1999);
    }

    /** MARKS of 0 are 1, -3; 5, -1; 9, -1; 20, 8, those of 1 all 0, 0. */
    private static LensTable fourMarks() {
        LensTable t = new LensTable();
        int[] x = {20, 1, 9, 5};
        int[] y = {8, -3, -1, -1};
        for (int i = 0; i < 4; i++) {
            t.mark(0, i, x[i], y[i]);
            t.mark(1, i, 0, 0);
        }
        return t;
    }

    private static void promise18OfSeveralTheLeast() {
        LensTable t = fourMarks();
        dueJoined(t, 0, 1, 4, 5, -1, 23 + 11);
        dueJoined(t, 1, 0, 4, -9, 1, 23 + 11);
        t.rub(0, 0);
        dueJoined(t, 0, 1, 3, 5, -1, 8 + 2);
        t.rub(1, 2);
        dueJoined(t, 0, 1, 2, 1, -3, 4 + 2);
        dueJoined(t, 1, 0, 2, -5, 1, 4 + 2);
    }

    private static void promise18AllMarks() {
        LensTable t = new LensTable();
        for (int i = 0; i < 24; i++) {
            t.mark(6, i, 7 * i % 24, -(5 * i % 24));
            t.mark(7, i, 0, 0);
        }
        dueJoined(t, 6, 7, 24, 11, -12, 144 + 144);
        dueJoined(t, 7, 6, 24, -12, 11, 144 + 144);
    }

    private static void promise18Refused() {
        LensTable t = fourMarks();
        int[][] bad = {{-1, 0, 0}, {8, 0, 0}, {0, -1, 0}, {0, 8, 0}, {0, 1, -1}, {0, 1, 4}, {MIN, 0, 0}, {MAX, 0, 0},
            {0, MIN, 0}, {0, MAX, 0}, {0, 1, MIN}, {0, 1, MAX}, {3, 4, 4}};
        for (int[] b : bad) {
            check.due("joined(" + b[0] + ", " + b[1] + ", " + b[2] + ")", t.joined(b[0], b[1], b[2]), Check.BAD);
        }
    }

    private static void dueAround(LensTable t, int n, int number, long x, long y) {
        check.due("x of " + number + " around " + n, t.around(n, number, 0), x);
        check.due("y of " + number + " around " + n, t.around(n, number, 1), y);
    }

    private static void dueRound(LensTable t, int n, long x, long y, long misfit) {
        check.due("error in x of " + n, t.round(n, 0), x);
        check.due("error in y of " + n, t.round(n, 1), y);
        check.due("misfits of " + n, t.round(n, 2), misfit);
    }

    private static void promise19RoundOfTwo() {
        LensTable t = fourMarks();
        t.mark(0, 10, -7, -9);
        t.mark(1, 11, -8, -8);
        t.mark(2, 12, 1, 1);
        dueRound(t, 2, -4, 0, 68);
        // CLOSED of 1 is 5 less -4 by 2, and -1
        dueAround(t, 2, 1, 4, -2);
        dueAround(t, 2, 0, 13, 3);
        dueAround(t, 2, 10, -7, -9);
        dueAround(t, 2, 11, -1, -9);
        dueAround(t, 2, 12, Check.NONE, Check.NONE);
        dueAround(t, 2, 23, Check.NONE, Check.NONE);
    }

    /** TRACES k and k + 1 have MARK k alone in common; its shift is 1, -1, but the last one 4, -4. */
    private static LensTable ringOfEight() {
        LensTable t = new LensTable();
        for (int k = 0; k < 8; k++) {
            int shift = k == 7 ? 4 : 1;
            t.mark(k, k, 0, 0);
            t.mark((k + 1) % 8, k, -shift, shift);
        }
        return t;
    }

    private static void promise19And20RoundOfEight() {
        LensTable t = ringOfEight();
        t.mark(6, 20, 100, 100);
        dueRound(t, 8, 11, -11, 0);
        // CLOSED in x: 0, 0, 0, -1, -1, -1, -2, -2
        dueAround(t, 8, 0, 0, 0);
        dueAround(t, 8, 2, -1, 1);
        dueAround(t, 8, 5, -2, 2);
        dueAround(t, 8, 7, -3, 3);
        dueAround(t, 8, 20, 98, 102);
        dueAround(t, 8, 21, Check.NONE, Check.NONE);
    }

    private static void promise19NothingInCommon() {
        LensTable t = ringOfEight();
        dueRound(t, 3, Check.NONE, Check.NONE, Check.NONE);
        dueAround(t, 3, 0, Check.NONE, Check.NONE);
        t.mark(2, 7, 0, 0);
        dueRound(t, 3, 1 + 1 + 4, -6, 0);
        // CLOSED of 1 is 1 less 6 by 3
        dueAround(t, 3, 0, -1, 1);
        t.rub(4, 3);
        dueRound(t, 8, Check.NONE, Check.NONE, Check.NONE);
        dueAround(t, 8, 0, Check.NONE, Check.NONE);
        dueRound(t, 3, 6, -6, 0);
    }

    private static void promise19And20Refused() {
        LensTable t = ringOfEight();
        int[][] bad = {{1, 0}, {9, 0}, {0, 0}, {-2, 0}, {8, -1}, {8, 3}, {MIN, 0}, {MAX, 0}, {8, MIN}, {8, MAX}, {3, 3}};
        for (int[] b : bad) {
            check.due("round(" + b[0] + ", " + b[1] + ")", t.round(b[0], b[1]), Check.BAD);
        }
        int[][] badAround = {{1, 0, 0}, {9, 0, 0}, {8, -1, 0}, {8, 24, 0}, {8, 0, -1}, {8, 0, 2}, {MIN, 0, 0}, {MAX, 0, 0},
            {8, MIN, 0}, {8, MAX, 0}, {8, 0, MIN}, {8, 0, MAX}, {3, 24, 0}, {3, 0, 2}};
        for (int[] b : badAround) {
            check.due("around(" + b[0] + ", " + b[1] + ", " + b[2] + ")", t.around(b[0], b[1], b[2]), Check.BAD);
        }
    }
}
