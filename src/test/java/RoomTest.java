/** Promises 6 to 13. */
public final class RoomTest {
    private static final Check check = new Check("RoomTest");
    private static final int MIN = Integer.MIN_VALUE, MAX = Integer.MAX_VALUE;

    public static void main(String[] args) {
        promise6Room();
        promise7Bend();
        promise8Told();
        promise9Thing();
        promise10Move();
        promise11Columns();
        promise11BentPicture();
        promise11Mirror();
        promise11Blur();
        promise11Refused();
        promise12FocusedByAHole();
        promise12FocusedByALens();
        promise12EndsOfAllDepths();
        promise12Refused();
        promise13Bent();
        promise13EveryColumn();
        promise13OfSeveral();
        check.end();
    }

    private static void promise6Room() {
        int[] first = {0, 10, 100, 0, 5, 160, 100};
        int[] least = {0, 1, 1, 0, 0, 1, 1};
        int[] most = {500, 100, 1000, 1, 50, 400, 400};
        for (int which = 0; which < 7; which++) {
            LensTable t = new LensTable();
            check.due("room(" + which + ") to the least", t.room(which, least[which]), first[which]);
            check.due("room(" + which + ") to the most", t.room(which, most[which]), least[which]);
            check.due("room(" + which + ") below", t.room(which, least[which] - 1), Check.BAD);
            check.due("room(" + which + ") above", t.room(which, most[which] + 1), Check.BAD);
            check.due("room(" + which + ") far below", t.room(which, MIN), Check.BAD);
            check.due("room(" + which + ") far above", t.room(which, MAX), Check.BAD);
            check.due("room(" + which + ") after BAD", t.room(which, least[which]), most[which]);
            for (int other = 0; other < 7; other++) {
                check.due("told(" + other + ")", t.told(other), other == which ? least[other] : first[other]);
            }
        }
        LensTable t = new LensTable();
        int[] none = {-1, 7, MIN, MAX};
        for (int which : none) {
            check.due("room(" + which + ", 1)", t.room(which, 1), Check.BAD);
        }
    }

    private static void promise7Bend() {
        LensTable t = new LensTable();
        for (int column = -8; column <= 8; column++) {
            check.due("bend", t.bend(column, 50), 0);
            check.due("bend", t.bend(column, -50), 50);
            check.due("bend above", t.bend(column, 51), Check.BAD);
            check.due("bend below", t.bend(column, -51), Check.BAD);
            check.due("bend", t.bend(column, column), -50);
        }
        for (int column = -8; column <= 8; column++) {
            check.due("told of column " + column, t.told(column + 15), column);
        }
        check.due("count(7)", t.count(7), 16);
        int[] none = {-9, 9, MIN, MAX};
        for (int column : none) {
            check.due("bend(" + column + ", 1)", t.bend(column, 1), Check.BAD);
        }
        check.due("bend to the least int", t.bend(0, MIN), Check.BAD);
        check.due("bend to the greatest int", t.bend(0, MAX), Check.BAD);
    }

    private static void promise8Told() {
        LensTable t = new LensTable();
        t.room(0, 33);
        t.room(6, 77);
        t.bend(-8, -7);
        t.bend(0, 9);
        t.bend(8, 11);
        check.due("told(0)", t.told(0), 33);
        check.due("told(6)", t.told(6), 77);
        check.due("told(7)", t.told(7), -7);
        check.due("told(15)", t.told(15), 9);
        check.due("told(23)", t.told(23), 11);
        int[] none = {-1, 24, MIN, MAX};
        for (int which : none) {
            check.due("told(" + which + ")", t.told(which), Check.BAD);
        }
    }

    private static final int[][] NO_PLACES = {{-1001, 0, 1}, {1001, 0, 1}, {0, -1001, 1}, {0, 1001, 1}, {0, 0, 0}, {0, 0, 5001},
        {0, 0, -1}, {MIN, 0, 1}, {MAX, 0, 1}, {0, MIN, 1}, {0, MAX, 1}, {0, 0, MIN}, {0, 0, MAX}};

    private static void promise9Thing() {
        LensTable t = new LensTable();
        for (int[] p : NO_PLACES) {
            check.due("thing(" + p[0] + ", " + p[1] + ", " + p[2] + ")", t.thing(p[0], p[1], p[2]), Check.BAD);
        }
        check.due("count(1)", t.count(1), 0);
        check.due("thing at one end", t.thing(-1000, -1000, 1), 0);
        check.due("thing at the other end", t.thing(1000, 1000, 5000), 1);
        check.due("picture", t.picture(0, 0), -1000);
        check.due("picture", t.picture(1, 2), 5000);
        for (int i = 2; i < 24; i++) {
            check.due("thing", t.thing(i, -i, 10 * i), i);
        }
        check.due("thing 25", t.thing(0, 0, 1), Check.FULL);
        check.due("thing 25, BAD ahead of FULL", t.thing(0, 0, 0), Check.BAD);
        check.due("count(1)", t.count(1), 24);
        check.due("the last is as it was", t.picture(23, 2), 230);
        check.due("status() after FULL", t.status(), 0);
    }

    private static void promise10Move() {
        LensTable t = new LensTable();
        check.due("move, no such thing", t.move(0, 0, 0, 1), Check.BAD);
        t.thing(1, 2, 3);
        t.thing(4, 5, 6);
        check.due("move", t.move(0, -1000, 1000, 5000), 1);
        check.due("x", t.picture(0, 0), -1000);
        check.due("y", t.picture(0, 1), 1000);
        check.due("z", t.picture(0, 2), 5000);
        check.due("the other's x", t.picture(1, 0), 4);
        for (int[] p : NO_PLACES) {
            check.due("move to " + p[0] + ", " + p[1] + ", " + p[2], t.move(1, p[0], p[1], p[2]), Check.BAD);
        }
        int[] none = {-1, 2, 24, MIN, MAX};
        for (int thing : none) {
            check.due("move(" + thing + ")", t.move(thing, 0, 0, 1), Check.BAD);
        }
        check.due("the other's y", t.picture(1, 1), 5);
        check.due("the other's z", t.picture(1, 2), 6);
        check.due("count(1)", t.count(1), 2);
    }

    private static void promise11Columns() {
        LensTable t = new LensTable();
        t.thing(0, 0, 100);
        int[] first = {0, 9, 10, -10, -11, -30, -31, 29, 30, 149, 150, 170, 1000, -150, -151, -170, -171, -1000};
        int[] column = {0, 0, 1, 0, -1, -1, -2, 1, 2, 7, 8, 8, 8, -7, -8, -8, -8, -8};
        for (int i = 0; i < first.length; i++) {
            t.move(0, -first[i], 0, 100);
            check.due("FIRST", t.picture(0, 3), first[i]);
            check.due("COLUMN of FIRST " + first[i], t.picture(0, 4), column[i]);
        }
    }

    private static void promise11BentPicture() {
        LensTable t = new LensTable();
        t.thing(7, 11, 300);
        check.due("FIRST, cut", t.picture(0, 3), -2);
        check.due("X, cut", t.picture(0, 6), -2);
        check.due("Y, cut", t.picture(0, 7), -3);
        t.move(0, -7, -11, 300);
        check.due("X, cut", t.picture(0, 6), 2);
        check.due("Y, cut", t.picture(0, 7), 3);
        t.move(0, -200, 50, 400);
        t.bend(3, -50);
        t.bend(2, 50);
        check.due("COLUMN", t.picture(0, 4), 3);
        check.due("E", t.picture(0, 5), 50);
        check.due("X by E", t.picture(0, 6), 25);
        check.due("Y by E", t.picture(0, 7), -6);
        check.due("FIRST not by E", t.picture(0, 3), 50);
        check.due("BLUR by E", t.picture(0, 8), 11);
        t.room(2, 50);
        check.due("COLUMN by DEPTH 50", t.picture(0, 4), 1);
        t.bend(1, -50);
        check.due("E 1 at least", t.picture(0, 5), 1);
        t.bend(1, -49);
        check.due("E", t.picture(0, 5), 1);
        t.bend(1, -48);
        check.due("E", t.picture(0, 5), 2);
        t.room(2, 1);
        t.bend(0, -50);
        check.due("E 1 at least", t.picture(0, 5), 1);
        t.move(0, 1000, -1000, 1);
        t.room(2, 1000);
        t.bend(-8, 50);
        check.due("the greatest FIRST", t.picture(0, 3), -1000000);
        check.due("the greatest X", t.picture(0, 6), -1050000);
        check.due("the greatest Y", t.picture(0, 7), 1050000);
    }

    private static void promise11Mirror() {
        LensTable t = new LensTable();
        t.thing(30, 70, 200);
        check.due("Y", t.picture(0, 7), -35);
        t.room(3, 1);
        check.due("Y by the mirror", t.picture(0, 7), 35);
        check.due("X by the mirror", t.picture(0, 6), -15);
        t.move(0, 30, -71, 200);
        check.due("Y by the mirror, cut", t.picture(0, 7), -35);
        check.due("y is as it was", t.picture(0, 1), -71);
        t.room(3, 0);
        check.due("Y", t.picture(0, 7), 35);
    }

    private static void dueBlur(int focus, int opening, int depth, int z, int blur) {
        LensTable t = new LensTable();
        t.room(0, focus);
        t.room(1, opening);
        t.room(2, depth);
        t.thing(0, 0, z);
        check.due("BLUR by " + focus + ", " + opening + ", " + depth + ", " + z, t.picture(0, 8), blur);
    }

    private static void promise11Blur() {
        dueBlur(0, 10, 100, 400, 12);
        dueBlur(0, 10, 100, 100, 20);
        dueBlur(0, 100, 1000, 1, 100100);
        dueBlur(0, 1, 1, 5000, 1);
        dueBlur(80, 20, 100, 400, 0);
        dueBlur(80, 20, 100, 150, 8);
        dueBlur(80, 20, 100, 40, 45);
        dueBlur(80, 20, 100, 80, 20);
        dueBlur(80, 20, 500, 400, 80);
        dueBlur(1, 100, 1000, 5000, 99880);
        dueBlur(500, 100, 1, 5000, 99);
        dueBlur(500, 100, 1000, 1, 99900);
    }

    private static void promise11Refused() {
        LensTable t = new LensTable();
        check.due("picture, no such thing", t.picture(0, 0), Check.BAD);
        t.thing(0, 0, 1);
        int[][] bad = {{1, 0}, {-1, 0}, {0, -1}, {0, 9}, {MIN, 0}, {MAX, 0}, {0, MIN}, {0, MAX}};
        for (int[] b : bad) {
            check.due("picture(" + b[0] + ", " + b[1] + ")", t.picture(b[0], b[1]), Check.BAD);
        }
    }

    private static void promise12FocusedByAHole() {
        LensTable t = new LensTable();
        t.thing(0, 0, 100);
        check.due("focused by a hole", t.focused(0, 0), 1);
        check.due("its blur", t.focused(0, 1), 10);
        t.bend(0, 50);
        check.due("focused by a hole, bent", t.focused(0, 0), 1);
        check.due("its blur", t.focused(0, 1), 15);
        // FIRST is the DEPTH here: at 50 to 69 it falls on COLUMN 3, where E is 9 at least by 59 or less
        t.move(0, -100, 0, 100);
        t.bend(0, 50);
        t.bend(1, 50);
        t.bend(2, 50);
        t.bend(3, -50);
        check.due("focused where the bend is deep", t.focused(0, 0), 50);
        check.due("its blur", t.focused(0, 1), 10);
    }

    private static void promise12FocusedByALens() {
        LensTable t = new LensTable();
        t.thing(0, 0, 100);
        t.room(0, 50);
        check.due("focused by a lens, of several the least", t.focused(0, 0), 91);
        check.due("its blur", t.focused(0, 1), 0);
        t.bend(0, 20);
        check.due("focused by a lens, bent", t.focused(0, 0), 71);
        t.bend(0, 0);
        t.room(1, 100);
        check.due("focused by a wide lens", t.focused(0, 0), 100);
        // by DEPTH 71 it falls on COLUMN 4, and no COLUMN ahead of it makes it sharp
        t.room(1, 10);
        t.move(0, -100, 0, 100);
        t.bend(4, 20);
        check.due("focused, with columns as they come out", t.focused(0, 0), 71);
        t.bend(4, -20);
        check.due("focused, with columns as they come out", t.focused(0, 0), 91);
        t.room(0, 500);
        t.room(1, 100);
        t.move(0, 0, 0, 100);
        check.due("nothing is sharp within the focus", t.focused(0, 0), 1);
        check.due("its blur", t.focused(0, 1), 100);
        t.room(0, 500);
        t.move(0, 0, 0, 1000);
        check.due("focused at the greatest depth", t.focused(0, 0), 991);
        check.due("nothing changes", t.told(2), 100);
        check.due("nothing changes", t.told(19), -20);
    }

    private static void promise12EndsOfAllDepths() {
        LensTable t = new LensTable();
        t.room(0, 500);
        t.room(1, 100);
        t.thing(0, 0, 1000);
        // BLUR is how far E is from 1000, by 10
        check.due("sharp where E is less than 10 from 1000", t.focused(0, 0), 991);
        t.bend(0, -50);
        check.due("blurred by 5 from 991 on", t.focused(0, 0), 991);
        t.bend(0, -49);
        check.due("blurred by 4 by the last of all depths", t.focused(0, 0), 1000);
        check.due("its blur", t.focused(0, 1), 4);
        // FIRST is ten times the DEPTH here: DEPTH 1 falls on COLUMN 1, DEPTH 2 on COLUMN 1 too, 3 on 2
        t = new LensTable();
        t.thing(-100, 0, 10);
        t.bend(1, -50);
        t.room(0, 10);
        check.due("E is 1 by the first and the second", t.focused(0, 0), 1);
        t.room(0, 0);
        t.bend(1, 50);
        t.move(0, -29, 0, 2);
        check.due("FIRST by 1 is 14, by 2 it is 29, by 3 it is 43", t.focused(0, 0), 3);
        t.bend(1, 0);
        check.due("by 1", t.focused(0, 0), 1);
        t.move(0, -60, 0, 2);
        t.bend(2, 50);
        t.bend(3, -50);
        check.due("FIRST by 1 is 30, by 2 it is 60", t.focused(0, 0), 2);
    }

    private static void promise12Refused() {
        LensTable t = new LensTable();
        t.thing(0, 0, 1);
        int[][] bad = {{1, 0}, {-1, 0}, {0, -1}, {0, 2}, {MIN, 0}, {MAX, 0}, {0, MIN}, {0, MAX}};
        for (int[] b : bad) {
            check.due("focused(" + b[0] + ", " + b[1] + ")", t.focused(b[0], b[1]), Check.BAD);
        }
    }

    private static void promise13Bent() {
        LensTable t = new LensTable();
        t.bend(5, 9);
        check.due("bent without things", t.bent(), 0);
        check.due("0 without things", t.told(20), 0);
        t.thing(0, 0, 100);
        t.bend(5, 9);
        check.due("bent", t.bent(), 1);
        check.due("of several the least size", t.told(15), -41);
        check.due("0 without things", t.told(20), 0);
        check.due("bent again", t.bent(), 1);
        check.due("the same", t.told(15), -41);
        t.room(0, 50);
        check.due("bent by a lens that is sharp", t.bent(), 0);
        t.room(2, 130);
        check.due("bent by a lens", t.bent(), 1);
        check.due("by as much as is needed", t.told(15), -21);
        t.room(2, 70);
        t.bent();
        check.due("by as much as is needed", t.told(15), 21);
        t.room(2, 30);
        t.bent();
        check.due("the greatest is not enough", t.told(15), 41);
        t.room(2, 200);
        t.bent();
        check.due("the least is not enough", t.told(15), -41);
        t.room(1, 100);
        t.bent();
        check.due("the least", t.told(15), -50);
        t.room(2, 30);
        t.bent();
        check.due("the greatest", t.told(15), 50);
        t.room(0, 0);
        t.room(2, 1);
        check.due("E is 1 at least", t.bent(), 0);
    }

    private static void promise13EveryColumn() {
        LensTable t = new LensTable();
        for (int column = -8; column <= 8; column++) {
            t.thing(-20 * column, 0, 100);
            t.bend(column, 50);
        }
        check.due("bent in all columns", t.bent(), 17);
        for (int column = -8; column <= 8; column++) {
            check.due("bend of column " + column, t.told(column + 15), -41);
        }
        // by an OPENING of 100 BLUR is 100 and E: the least E, and by a DEPTH of 2 that is 1
        t.room(1, 100);
        t.room(2, 2);
        t.bent();
        check.due("E of 1 is less than 2", t.told(15), -1);
        t.room(2, 3);
        t.bent();
        check.due("E of 1 is less than 2", t.told(15), -2);
        t.room(0, 50);
        t.room(2, 99);
        t.bent();
        check.due("up by 1", t.told(15), 1);
    }

    private static void promise13OfSeveral() {
        LensTable t = new LensTable();
        t.room(0, 50);
        t.room(1, 100);
        t.room(2, 90);
        t.thing(0, 0, 100);
        t.thing(0, 0, 200);
        t.thing(-90, 0, 90);
        t.bend(4, 3);
        check.due("bent", t.bent(), 2);
        check.due("two things, their blurs added", t.told(15), -23);
        check.due("the third in a column of its own", t.told(20), 22);
        // blurs added are 20 from -13 to 13, and 19 by -14 and by 14
        t = new LensTable();
        t.room(0, 197);
        t.room(1, 11);
        t.room(2, 268);
        t.thing(0, 0, 132);
        t.thing(0, 0, 461);
        check.due("bent", t.bent(), 1);
        check.due("of the same size the lesser", t.told(15), -14);
    }
}
