/** Promises 25 and 26. */
public final class StudiosTest {
    private static final Check check = new Check("StudiosTest");
    private static final int MIN = Integer.MIN_VALUE, MAX = Integer.MAX_VALUE;

    public static void main(String[] args) {
        promise25Misfit();
        promise25FiveHundredAtMost();
        promise25NotAtAll();
        promise25Made();
        promise25EveryStudioIsLookedAt();
        promise25LimitsOfItems();
        promise26Studios();
        promise26NoMarks();
        promise26MarksOfNoStudio();
        promise25And26Refused();
        promise25And26TwentyStudios();
        check.end();
    }

    private static void fill(LensTable t, int sheet, int... items) {
        t.sheet(sheet, 2, items.length);
        for (int i = 0; i < items.length; i++) {
            t.set(sheet, i, items[i]);
        }
    }

    /** From 0, 0, 0 by 100 the three THINGS fall at -25, -10; 80, -40; 0, 100. */
    private static LensTable threeThings() {
        LensTable t = new LensTable();
        t.thing(50, 20, 200);
        t.thing(-80, 40, 100);
        t.thing(0, -60, 60);
        return t;
    }

    private static void paint(LensTable t, int trace) {
        t.mark(trace, 0, -25, -10);
        t.mark(trace, 1, 80, -40);
        t.mark(trace, 2, 0, 100);
    }

    private static void promise25Misfit() {
        LensTable t = threeThings();
        paint(t, 3);
        fill(t, 4, 0, 0, 0, 100, 10, -20, -100, 100);
        check.due("misfit", t.studio(3, 4, 0, 2, 0, 0, 0), 0);
        // the second puts them at -13, -13; 45, -30; 6, 25
        check.due("misfit", t.studio(3, 4, 0, 2, 1, 0, 0), 12 + 3 + 35 + 10 + 6 + 75);
        t.mark(3, 3, 1000, 1000);
        check.due("a mark without a thing", t.studio(3, 4, 0, 2, 0, 0, 0), 0);
        t.thing(0, 0, 10);
        check.due("a mark with a thing", t.studio(3, 4, 0, 2, 0, 0, 0), 1000);
        t.rub(3, 3);
        check.due("a thing without a mark", t.studio(3, 4, 0, 2, 0, 0, 0), 0);
        t.move(0, 50, 20, 300);
        check.due("things as they are now: they fall at -16, -6", t.studio(3, 4, 0, 2, 0, 0, 0), 9 + 4);
        t.room(2, 700);
        t.room(3, 1);
        t.stand(0, 9, 9, 9, 9);
        check.due("rooms are not asked", t.studio(3, 4, 0, 2, 0, 0, 0), 13);
        check.due("another painting", t.studio(2, 4, 0, 2, 0, 0, 0), 0);
    }

    private static void promise25FiveHundredAtMost() {
        LensTable t = new LensTable();
        t.thing(0, 0, 100);
        fill(t, 0, 0, 0, 0, 1);
        int[][] marks = {{499, 0, 499}, {500, 0, 500}, {501, 0, 500}, {-501, 0, 500}, {0, 499, 499}, {0, 501, 500}, {0, -1000, 500},
            {1000, 1000, 1000}, {600, 3, 503}, {-3, -600, 503}};
        for (int[] m : marks) {
            t.mark(0, 0, m[0], m[1]);
            check.due("misfit of a mark at " + m[0] + ", " + m[1], t.studio(0, 0, 0, 1, 0, 0, 0), m[2]);
        }
    }

    private static void promise25NotAtAll() {
        LensTable t = threeThings();
        paint(t, 0);
        fill(t, 0, 0, 0, 200, 100, 0, 0, 199, 1, 0, 0, 100, 100, 0, 0, -1000, 1000);
        check.due("none is ahead", t.studio(0, 0, 0, 4, 0, 20, 0), 3000);
        check.due("made", t.studio(0, 0, 0, 4, 0, 20, 1), 0);
        check.due("one is ahead by 1", t.studio(0, 0, 0, 4, 1, 20, 0), 2000 + 25 + 10);
        check.due("one is ahead by 100", t.studio(0, 0, 0, 4, 2, 20, 0), 2000 + 25 + 10);
        check.due("made", t.studio(0, 0, 0, 4, 2, 20, 1), 0);
        // from behind they fall at -41, -16; 72, -36; 0, 56
        check.due("from behind", t.studio(0, 0, 0, 4, 3, 20, 0), 16 + 6 + 8 + 4 + 44);
        t.rub(0, 1);
        t.rub(0, 2);
        check.due("one that is ahead, off by 25", t.studio(0, 0, 0, 4, 2, 20, 1), 0);
        t.mark(0, 0, -50, -20);
        check.due("one that is ahead", t.studio(0, 0, 0, 4, 2, 0, 1), 1);
    }

    private static void promise25Made() {
        LensTable t = new LensTable();
        t.thing(0, 0, 100);
        t.thing(0, 0, 200);
        fill(t, 0, 0, 0, 0, 1);
        check.due("made, no marks", t.studio(0, 0, 0, 1, 0, 0, 1), 1);
        check.due("misfit, no marks", t.studio(0, 0, 0, 1, 0, 0, 0), 0);
        int[][] marks = {{0, 0, 0}, {5, 0, 5}, {-5, 0, 5}, {0, 7, 7}, {0, -7, 7}, {3, 20, 20}, {20, -20, 20}};
        for (int[] m : marks) {
            t.mark(0, 1, m[0], m[1]);
            check.due("made by " + m[2], t.studio(0, 0, 0, 1, 0, m[2], 1), 1);
            if (m[2] > 0) {
                check.due("made by less than " + m[2], t.studio(0, 0, 0, 1, 0, m[2] - 1, 1), 0);
            }
        }
        t.mark(0, 0, 21, 0);
        check.due("made, one of two is off", t.studio(0, 0, 0, 1, 0, 20, 1), 0);
        t.mark(0, 0, 20, 0);
        check.due("made, both are near", t.studio(0, 0, 0, 1, 0, 20, 1), 1);
        t.mark(0, 9, 500, 500);
        check.due("made, a mark without a thing", t.studio(0, 0, 0, 1, 0, 20, 1), 1);
    }

    private static void promise25EveryStudioIsLookedAt() {
        LensTable t = threeThings();
        fill(t, 0, 0, 0, 0, 0, 0, 0, 0, 100, 0, 0, 0, 100, 0, 0, 1001, 100, 9, 9);
        check.due("a d of 0 in another", t.studio(0, 0, 0, 2, 1, 0, 0), Check.BAD);
        check.due("a w of 1001 in another", t.studio(0, 0, 4, 3, 0, 0, 0), Check.BAD);
        check.due("neither of them", t.studio(0, 0, 4, 2, 0, 0, 0), 0);
        check.due("a w of 1001 in another", t.studios(0, 0, 4, 3, 0, 0), Check.BAD);
        check.due("neither of them", t.studios(0, 0, 4, 2, 0, 0), 0);
        check.due("rows may begin anywhere", t.studios(0, 0, 5, 1, 0, 0), Check.BAD);
        t.set(0, 8, 1);
        check.due("rows may begin anywhere", t.studios(0, 0, 5, 1, 0, 0), 0);
    }

    private static void promise25LimitsOfItems() {
        LensTable t = threeThings();
        int[] least = {-1000, -1000, -1000, 1};
        int[] most = {1000, 1000, 1000, 1000};
        for (int i = 0; i < 4; i++) {
            fill(t, 0, 0, 0, 0, 100);
            int[] fine = {least[i], most[i]};
            for (int v : fine) {
                t.set(0, i, v);
                check.due("item " + i + " of " + v, t.studio(0, 0, 0, 1, 0, 0, 0), 0);
                check.due("item " + i + " of " + v, t.studios(0, 0, 0, 1, 0, 0), 0);
            }
            int[] bad = {least[i] - 1, most[i] + 1, MIN, MAX};
            for (int v : bad) {
                t.set(0, i, v);
                check.due("item " + i + " of " + v, t.studio(0, 0, 0, 1, 0, 0, 0), Check.BAD);
                check.due("item " + i + " of " + v, t.studios(0, 0, 0, 1, 0, 0), Check.BAD);
            }
        }
    }

    private static void promise26Studios() {
        LensTable t = threeThings();
        paint(t, 0);
        fill(t, 0, 0, 0, 1000, 1, 5, 5, -20, 120, 0, 0, 0, 100, 0, 0, 0, 100, 0, 0, 0, 101);
        check.due("the least misfit, of several the first", t.studios(0, 0, 0, 5, 0, 0), 2);
        check.due("counted from the first row", t.studios(0, 0, 4, 4, 0, 0), 1);
        check.due("the last", t.studios(0, 0, 16, 1, 0, 0), 0);
        check.due("made by 0", t.studios(0, 0, 0, 5, 0, 1), 2);
        check.due("made by 1", t.studios(0, 0, 0, 5, 1, 1), 3);
        check.due("made by 20", t.studios(0, 0, 0, 5, 20, 1), 4);
        check.due("marks of none", t.studios(0, 0, 0, 5, 0, 2), 0);
        check.due("marks of none, of the first alone", t.studios(0, 0, 0, 1, 20, 2), 3);
        check.due("the least misfit, of the first alone", t.studios(0, 0, 0, 1, 20, 0), 0);
    }

    private static void promise26NoMarks() {
        LensTable t = threeThings();
        fill(t, 0, 0, 0, 1000, 1, 5, 5, -20, 120, 0, 0, 0, 100);
        t.mark(0, 20, 1, 1);
        check.due("the first", t.studios(0, 0, 0, 3, 0, 0), 0);
        check.due("all made it", t.studios(0, 0, 0, 3, 0, 1), 3);
        check.due("no mark is of none", t.studios(0, 0, 0, 3, 0, 2), 0);
    }

    private static void promise26MarksOfNoStudio() {
        LensTable t = threeThings();
        // from 10, 10, 0 by 100 they fall at -20, -5; 90, -30; 16, 116
        fill(t, 0, 0, 0, 0, 100, 10, 10, 0, 100);
        t.mark(0, 0, -25, -10);
        t.mark(0, 1, 90, -30);
        t.mark(0, 2, 16, 100);
        check.due("neither made it", t.studios(0, 0, 0, 2, 0, 1), 0);
        check.due("x of one, y of the other is of none", t.studios(0, 0, 0, 2, 0, 2), 1);
        check.due("by 15", t.studios(0, 0, 0, 2, 15, 2), 1);
        check.due("by 16", t.studios(0, 0, 0, 2, 16, 2), 0);
        check.due("of the first alone", t.studios(0, 0, 0, 1, 0, 2), 2);
        check.due("of the second alone", t.studios(0, 0, 4, 1, 0, 2), 2);
        check.due("the least misfit is 5, 5; 16", t.studios(0, 0, 0, 2, 0, 0), 1);
        t.mark(0, 23, 900, 900);
        check.due("a mark without a thing", t.studios(0, 0, 0, 2, 0, 2), 1);
    }

    private static void promise25And26Refused() {
        LensTable t = threeThings();
        fill(t, 0, 0, 0, 0, 100, 0, 0, 0, 100);
        int[][] bad = {{-1, 0, 0, 2, 0, 0, 0}, {8, 0, 0, 2, 0, 0, 0}, {0, -1, 0, 2, 0, 0, 0}, {0, 8, 0, 2, 0, 0, 0},
            {0, 0, 0, 0, 0, 0, 0}, {0, 0, 0, 21, 0, 0, 0}, {0, 0, 0, -1, 0, 0, 0}, {0, 0, 0, MIN, 0, 0, 0},
            {0, 0, 0, MAX, 0, 0, 0}, {0, 0, 0, 2, 0, -1, 0}, {0, 0, 0, 2, 0, 21, 0}, {0, 0, 0, 2, 0, MIN, 0},
            {0, 0, 0, 2, 0, MAX, 0}, {0, 0, 0, 2, 0, 0, -1}, {0, 0, 0, 2, 0, 0, 3}, {0, 0, 0, 2, 0, 0, MIN},
            {0, 0, 0, 2, 0, 0, MAX}, {8, 1, -1, 2, 0, 0, 0}, {0, 1, -1, 21, 0, 0, 0}, {0, 1, 0, 2, 0, 21, 0}, {0, 1, 0, 2, 0, 0, 3}};
        for (int[] b : bad) {
            check.due("studio, BAD", t.studio(b[0], b[1], b[2], b[3], b[4], b[5], b[6]), Check.BAD);
            check.due("studios, BAD", t.studios(b[0], b[1], b[2], b[3], b[5], b[6]), Check.BAD);
        }
        check.due("studio, what", t.studio(0, 0, 0, 2, 0, 0, 2), Check.BAD);
        int[] noStudio = {-1, 2, MIN, MAX};
        for (int k : noStudio) {
            check.due("studio, k " + k, t.studio(0, 0, 0, 2, k, 0, 0), Check.BAD);
            check.due("studio, k " + k + ", ahead of NULL", t.studio(0, 1, 0, 2, k, 0, 0), Check.BAD);
        }
        check.due("status()", t.status(), 0);
        int[][] places = {{-1, 1}, {5, 1}, {1, 2}, {0, 3}, {0, 20}, {MIN, 1}, {MAX, 1}, {8, 1}};
        for (int[] p : places) {
            check.due("studio, PLACE", t.studio(0, 0, p[0], p[1], 0, 0, 0), Check.PLACE);
            check.due("status()", t.status(), 2);
            check.due("studios, missing", t.studios(0, 1, p[0], p[1], 0, 0), Check.NULL);
            check.due("status()", t.status(), 1);
            check.due("studios, PLACE", t.studios(0, 0, p[0], p[1], 0, 0), Check.PLACE);
            check.due("status()", t.status(), 2);
            check.due("studio, missing", t.studio(0, 1, p[0], p[1], 0, 0, 0), Check.NULL);
            check.due("status()", t.status(), 1);
        }
        t.set(0, 3, 0);
        check.due("studio, PLACE ahead of an item", t.studio(0, 0, 0, 3, 0, 0, 0), Check.PLACE);
        check.due("studio, an item", t.studio(0, 0, 0, 2, 0, 0, 0), Check.BAD);
        check.due("status() after BAD", t.status(), 2);
        check.due("studio", t.studio(0, 0, 4, 1, 0, 0, 0), 0);
        check.due("status()", t.status(), 0);
    }

    private static void promise25And26TwentyStudios() {
        LensTable t = new LensTable();
        for (int i = 0; i < 24; i++) {
            t.thing(0, 0, 100 + i);
            t.mark(0, i, 0, 0);
        }
        int[] items = new int[80];
        for (int k = 0; k < 20; k++) {
            items[4 * k] = 20 - k;
            items[4 * k + 3] = 1000;
        }
        fill(t, 0, items);
        check.due("the last of twenty", t.studios(0, 0, 0, 20, 0, 0), 19);
        check.due("misfit of the last", t.studio(0, 0, 0, 20, 19, 0, 0), 10 + 9 * 11 + 8 * 12);
        check.due("made by 10", t.studios(0, 0, 0, 20, 10, 1), 1);
        check.due("of none by 8", t.studios(0, 0, 0, 20, 8, 2), 12);
        items[78] = 1000;
        fill(t, 0, items);
        check.due("the one ahead of the last", t.studios(0, 0, 0, 20, 0, 0), 18);
        check.due("twenty-four times 1000", t.studio(0, 0, 0, 20, 19, 0, 0), 24000);
    }
}
