/** Promises 21 to 24. */
public final class TwoRoomsTest {
    private static final Check check = new Check("TwoRoomsTest");
    private static final int MIN = Integer.MIN_VALUE, MAX = Integer.MAX_VALUE;

    public static void main(String[] args) {
        promise21Stand();
        promise22Far();
        promise22Turned();
        promise22NotAhead();
        promise22Greatest();
        promise22Refused();
        promise23High();
        promise24Span();
        promise24Refused();
        check.end();
    }

    private static void dueFar(LensTable t, int p, int q, long upper, long lower) {
        check.due("upper of " + p + ", " + q, t.far(p, q, 0), upper);
        check.due("lower of " + p + ", " + q, t.far(p, q, 1), lower);
    }

    private static void dueSpan(LensTable t, int p, int q, int e, long least, long greatest) {
        check.due("least of " + p + ", " + q + " by " + e, t.span(p, q, e, 0), least);
        check.due("greatest of " + p + ", " + q + " by " + e, t.span(p, q, e, 1), greatest);
    }

    private static LensTable twoRooms() {
        LensTable t = new LensTable();
        t.stand(0, 10, 5, 20, 100);
        t.stand(1, 70, 0, 50, 80);
        return t;
    }

    private static void promise21Stand() {
        LensTable t = new LensTable();
        check.due("stand", t.stand(0, -1000, -1000, 0, 1), 1);
        check.due("stand", t.stand(1, 1000, 1000, 1000, 1000), 1);
        check.due("stand", t.stand(0, 10, 5, 20, 100), 1);
        check.due("stand", t.stand(1, 70, 0, 50, 80), 1);
        dueFar(t, -20, 30, 662000, 4600);
        int[][] bad = {{-1, 0, 0, 0, 1}, {2, 0, 0, 0, 1}, {0, -1001, 0, 0, 1}, {0, 1001, 0, 0, 1}, {0, 0, -1001, 0, 1},
            {0, 0, 1001, 0, 1}, {0, 0, 0, -1, 1}, {0, 0, 0, 1001, 1}, {0, 0, 0, 0, 0}, {1, 0, 0, 0, 1001}, {1, 0, 0, -1000, 1},
            {MIN, 0, 0, 0, 1}, {MAX, 0, 0, 0, 1}, {0, MIN, 0, 0, 1}, {0, MAX, 0, 0, 1}, {0, 0, MIN, 0, 1}, {0, 0, MAX, 0, 1},
            {0, 0, 0, MIN, 1}, {0, 0, 0, MAX, 1}, {0, 0, 0, 0, MIN}, {0, 0, 0, 0, MAX}};
        for (int[] b : bad) {
            check.due("stand(" + b[0] + ", " + b[1] + ", " + b[2] + ", " + b[3] + ", " + b[4] + ")",
                t.stand(b[0], b[1], b[2], b[3], b[4]), Check.BAD);
        }
        dueFar(t, -20, 30, 662000, 4600);
        check.due("high", t.high(-20, 30, 15), -13);
    }

    private static void promise22Far() {
        LensTable t = twoRooms();
        // LOWER 30 x 100 + 20 x 80; UPPER 60 x 8000 + 20 x 20 x 80 + 30 x 50 x 100
        dueFar(t, -20, 30, 662000, 4600);
        dueFar(t, 0, 1, 480000 + 5000, 100);
        dueFar(t, 0, 0, Check.NONE, Check.NONE);
        dueFar(t, 5, 4, Check.NONE, Check.NONE);
        dueFar(t, 50, 40, Check.NONE, Check.NONE);
        dueFar(t, 50, 41, 480000 - 80000 + 205000, 100);
    }

    private static void promise22Turned() {
        LensTable t = new LensTable();
        t.stand(1, -60, 0, 0, 100);
        dueFar(t, 40, -20, 600000, 6000);
        dueFar(t, -40, 20, Check.NONE, Check.NONE);
        t.stand(0, 0, 0, 7, 100);
        dueFar(t, 40, -20, 600000 + 40 * 7 * 100, 6000);
        t.stand(1, -60, 0, 9, 100);
        dueFar(t, 40, -20, 600000 + 40 * 7 * 100 + 20 * 9 * 100, 6000);
    }

    private static void promise22NotAhead() {
        LensTable t = new LensTable();
        t.stand(0, 0, 0, 10, 1);
        t.stand(1, 0, 0, 10, 1);
        dueFar(t, 0, 1, Check.NONE, Check.NONE);
        t.stand(1, 1, 0, 10, 1);
        dueFar(t, 0, 1, 11, 1);
        dueSpan(t, 0, 1, 0, 11, 11);
        check.due("high by 1", t.high(0, 1, 7), -7);
        dueFar(t, 0, 1000, 10001, 1000);
        // 1 + q w1 is above q times the greater of the two only while the other is behind
        t.stand(1, 1, 0, 9, 1);
        dueFar(t, 0, 1, Check.NONE, Check.NONE);
        t.stand(1, 2, 0, 9, 1);
        dueFar(t, 0, 1, 11, 1);
        t.stand(1, 2, 0, 11, 1);
        dueFar(t, 0, 1, 13, 1);
        dueFar(t, -1, 0, 12, 1);
        t.stand(1, 1, 0, 11, 1);
        dueFar(t, -1, 0, Check.NONE, Check.NONE);
    }

    private static void promise22Greatest() {
        LensTable t = new LensTable();
        t.stand(0, -1000, 0, 1000, 1000);
        t.stand(1, 1000, 0, 1000, 1000);
        dueFar(t, -1000, 1000, 4000000000L, 2000000);
        dueFar(t, 0, 1, 2001000000L, 1000);
        check.due("high of the greatest", t.high(-1000, 1000, 1000), -1000);
        dueSpan(t, 0, 1, 0, 2001000, 2001000);
    }

    private static void promise22Refused() {
        LensTable t = twoRooms();
        int[] bad = {-1001, 1001, MIN, MAX};
        for (int b : bad) {
            check.due("far(" + b + ", 0, 0)", t.far(b, 0, 0), Check.BAD);
            check.due("far(0, " + b + ", 0)", t.far(0, b, 0), Check.BAD);
            check.due("high(" + b + ", 0, 0)", t.high(b, 0, 0), Check.BAD);
            check.due("high(0, " + b + ", 0)", t.high(0, b, 0), Check.BAD);
            check.due("high(0, 0, " + b + ")", t.high(0, 0, b), Check.BAD);
        }
        int[] noWhat = {-1, 2, MIN, MAX};
        for (int what : noWhat) {
            check.due("far(0, 0, " + what + ")", t.far(0, 0, what), Check.BAD);
        }
        dueFar(t, -1000, 1000, Check.NONE, Check.NONE);
        dueFar(t, 1000, 1000, 480000 - 1600000 + 5000000, 20000);
        check.due("high", t.high(1000, 1000, -1000), 1745);
    }

    private static void promise23High() {
        LensTable t = twoRooms();
        // 5 x 4600 x 100 less 15 x (662000 less 20 x 4600), by 460000: -13.58
        check.due("high, cut", t.high(-20, 30, 15), -13);
        check.due("high, cut", t.high(-20, 30, -15), 23);
        check.due("high of 0", t.high(-20, 30, 0), 5);
        check.due("high, far is NONE", t.high(5, 4, 0), Check.NONE);
        check.due("high, far is NONE", t.high(50, 40, 0), Check.NONE);
        t.stand(0, 10, -1000, 20, 100);
        check.due("high from another v", t.high(-20, 30, 15), -1018);
        t.stand(1, 70, 900, 50, 80);
        check.due("the v of room 1 is not asked", t.high(-20, 30, 15), -1018);
    }

    private static void promise24Span() {
        LensTable t = new LensTable();
        t.stand(1, 60, 0, 0, 100);
        dueSpan(t, -20, 40, 0, 100, 100);
        dueSpan(t, -20, 40, 1, 96, 103);
        dueSpan(t, -20, 40, 20, 60, 300);
        dueSpan(t, -1000, 1000, 20, 2, 3);
        dueSpan(t, 980, 1000, 9, 157, 3000);
        dueSpan(t, 980, 1000, 10, Check.NONE, Check.NONE);
        dueSpan(t, -1, 1, 0, 3000, 3000);
        dueSpan(t, -1, 1, 1, Check.NONE, Check.NONE);
        t.stand(1, 60, 0, 300, 100);
        // LOWER is 100 (q - p), UPPER 600000 and 30000 q: it must be above 300 LOWER
        dueSpan(t, -20, 40, 0, Check.NONE, Check.NONE);
        dueSpan(t, -10, 100, 0, 327, 327);
        dueSpan(t, -10, 100, 5, 312, 345);
        dueSpan(t, -10, 100, 15, Check.NONE, Check.NONE);
    }

    private static void promise24Refused() {
        LensTable t = twoRooms();
        int[][] bad = {{-1001, 0, 0, 0}, {1001, 0, 0, 0}, {0, -1001, 0, 0}, {0, 1001, 0, 0}, {0, 0, -1, 0}, {0, 0, 21, 0},
            {0, 0, 0, -1}, {0, 0, 0, 2}, {MIN, 0, 0, 0}, {MAX, 0, 0, 0}, {0, MIN, 0, 0}, {0, MAX, 0, 0}, {0, 0, MIN, 0},
            {0, 0, MAX, 0}, {0, 0, 0, MIN}, {0, 0, 0, MAX}};
        for (int[] b : bad) {
            check.due("span(" + b[0] + ", " + b[1] + ", " + b[2] + ", " + b[3] + ")", t.span(b[0], b[1], b[2], b[3]), Check.BAD);
        }
    }
}
