/** Promises 1 to 5, and 34 as far as SHEETS go. */
public final class SheetsTest {
    private static final Check check = new Check("SheetsTest");
    private static final int MIN = Integer.MIN_VALUE, MAX = Integer.MAX_VALUE;

    public static void main(String[] args) {
        promise1NewObject();
        promise1RoomsAtFirst();
        promise2Sheet();
        promise2InPlaceOfWhatIsThere();
        promise3Set();
        promise3Refused();
        promise4Copy();
        promise4WithinOneSheet();
        promise4Refused();
        promise5Drop();
        promise34Status();
        check.end();
    }

    /** ITEMS i .. i + 3 are told by a STUDIO of them, with one THING and one MARK where they must put it. */
    private static void dueItems(LensTable t, int sheet, int i, int u, int v) {
        if (t.count(1) == 0) {
            t.thing(0, 0, 100);
        }
        t.mark(7, 0, u, v);
        check.due("items " + i + ", " + (i + 1) + " of sheet " + sheet + " are " + u + ", " + v,
            t.studio(7, sheet, i, 1, 0, 0, 1), 1);
    }

    private static void fill(LensTable t, int sheet, int... items) {
        for (int i = 0; i < items.length; i++) {
            t.set(sheet, i, items[i]);
        }
    }

    private static void promise1NewObject() {
        LensTable t = new LensTable();
        int[] numbers = {0, 10, 100, 0, 5, 160, 100};
        for (int i = 0; i < 24; i++) {
            check.due("told(" + i + ") of a new object", t.told(i), i < 7 ? numbers[i] : 0);
        }
        for (int i = 0; i < 8; i++) {
            check.due("count(" + i + ") of a new object", t.count(i), 0);
            check.due("joined with itself of a new object", t.joined(i, i, 0), 0);
        }
        check.due("status() of a new object", t.status(), 0);
        check.due("trace(0) of a new object", t.trace(0), Check.NONE);
        check.due("kind(0) of a new object", t.kind(0), Check.BAD);
        for (int i = 0; i < 8; i++) {
            check.due("drop(" + i + ") of a new object", t.drop(i), Check.NULL);
        }
    }

    private static void promise1RoomsAtFirst() {
        LensTable t = new LensTable();
        t.stand(1, 60, 0, 0, 100);
        check.due("far, room 0 as at first", t.far(-20, 40, 0), 600000);
        check.due("far, room 0 as at first", t.far(-20, 40, 1), 6000);
        check.due("high, room 0 as at first", t.high(-20, 40, 15), -15);
        t = new LensTable();
        t.stand(0, -60, 0, 0, 100);
        check.due("far, room 1 as at first", t.far(-20, 40, 0), 600000);
        check.due("far, room 1 as at first", t.far(-20, 40, 1), 6000);
    }

    private static void promise2Sheet() {
        LensTable t = new LensTable();
        check.due("sheet of none", t.sheet(0, 0, 0), 0);
        check.due("sheet of 80", t.sheet(7, 2, 80), 80);
        check.due("sheet of 1", t.sheet(3, 1, 1), 1);
        check.due("count(0)", t.count(0), 3);
        int[][] bad = {{-1, 0, 1}, {8, 0, 1}, {0, -1, 1}, {0, 3, 1}, {0, 0, 81}, {0, 0, MAX}, {MIN, 0, 1}, {MAX, 0, 1},
            {0, MIN, 1}, {0, MAX, 1}, {8, 0, -1}, {0, 3, -1}, {-1, -1, 81}};
        for (int[] b : bad) {
            check.due("sheet(" + b[0] + ", " + b[1] + ", " + b[2] + ")", t.sheet(b[0], b[1], b[2]), Check.BAD);
        }
        check.due("status() after BAD", t.status(), 0);
        check.due("sheet of fewer than none", t.sheet(7, 2, -1), Check.SIZE);
        check.due("status() after SIZE", t.status(), 4);
        check.due("sheet of fewer than none", t.sheet(1, 2, MIN), Check.SIZE);
        check.due("count(0) after what was refused", t.count(0), 3);
        check.due("status() after SIZE", t.status(), 4);
        check.due("BAD behind SIZE", t.sheet(0, 0, 81), Check.BAD);
        check.due("status() after BAD stays", t.status(), 4);
        check.due("the sheet is as it was", t.drop(7), 80);
    }

    private static void promise2InPlaceOfWhatIsThere() {
        LensTable t = new LensTable();
        t.sheet(0, 0, 8);
        fill(t, 0, 5, 6, 0, 100, 9, 9, 9, 9);
        dueItems(t, 0, 0, 5, 6);
        check.due("bytes", t.set(0, 4, 300), 44);
        check.due("sheet anew, shorter", t.sheet(0, 1, 4), 4);
        check.due("no place beyond", t.set(0, 4, 1), Check.PLACE);
        check.due("shorts", t.set(0, 3, 300), 300);
        dueItems(t, 0, 0, 0, 0);
        check.due("sheet anew, longer", t.sheet(0, 2, 8), 8);
        t.set(0, 7, 100);
        dueItems(t, 0, 4, 0, 0);
        check.due("a d of 0 again", t.studio(7, 0, 0, 1, 0, 0, 1), Check.BAD);
        check.due("still one sheet", t.count(0), 1);
    }

    private static void promise3Set() {
        LensTable t = new LensTable();
        t.sheet(0, 0, 3);
        t.sheet(1, 1, 3);
        t.sheet(2, 2, 3);
        int[] v = {0, 127, 128, 255, 256, -128, -129, 300, 32767, 32768, 65535, 65536, -32769, 70000, MAX, MIN, -1};
        int[] asByte = {0, 127, -128, -1, 0, -128, 127, 44, -1, 0, -1, 0, -1, 112, -1, 0, -1};
        int[] asShort = {0, 127, 128, 255, 256, -128, -129, 300, 32767, -32768, -1, 0, 32767, 4464, -1, 0, -1};
        for (int k = 0; k < v.length; k++) {
            check.due("set a byte to " + v[k], t.set(0, k % 3, v[k]), asByte[k]);
            check.due("set a short to " + v[k], t.set(1, k % 3, v[k]), asShort[k]);
            check.due("set an int to " + v[k], t.set(2, k % 3, v[k]), v[k]);
        }
        t.sheet(3, 1, 8);
        fill(t, 3, 1, 2, 0, 100, -30, 40, 0, 100);
        dueItems(t, 3, 0, 1, 2);
        dueItems(t, 3, 4, -30, 40);
    }

    private static void promise3Refused() {
        LensTable t = new LensTable();
        check.due("set, no such sheet", t.set(-1, 0, 0), Check.BAD);
        check.due("set, no such sheet", t.set(8, 0, 0), Check.BAD);
        check.due("status()", t.status(), 0);
        check.due("set, missing", t.set(0, -1, 0), Check.NULL);
        check.due("status()", t.status(), 1);
        t.sheet(0, 2, 4);
        check.due("status()", t.status(), 0);
        int[] places = {-1, 4, 80, MAX, MIN};
        for (int i : places) {
            check.due("set, place " + i, t.set(0, i, 7), Check.PLACE);
            check.due("status()", t.status(), 2);
        }
        t.sheet(1, 2, 0);
        check.due("set, a sheet of none", t.set(1, 0, 7), Check.PLACE);
        check.due("set, BAD behind PLACE", t.set(9, 0, 7), Check.BAD);
        check.due("status()", t.status(), 2);
        check.due("set", t.set(0, 3, 100), 100);
        check.due("status()", t.status(), 0);
        dueItems(t, 0, 0, 0, 0);
    }

    private static void promise4Copy() {
        LensTable t = new LensTable();
        t.sheet(0, 1, 8);
        t.sheet(1, 1, 12);
        fill(t, 0, 1, 2, 0, 100, 3, 4, 0, 100);
        check.due("copy", t.copy(0, 0, 1, 4, 8), 8);
        dueItems(t, 1, 4, 1, 2);
        dueItems(t, 1, 8, 3, 4);
        dueItems(t, 0, 0, 1, 2);
        check.due("nothing came ahead of it", t.studio(7, 1, 0, 1, 0, 0, 1), Check.BAD);
        check.due("copy a part", t.copy(0, 4, 1, 0, 4), 4);
        dueItems(t, 1, 0, 3, 4);
        dueItems(t, 1, 4, 1, 2);
        check.due("copy none, at both ends", t.copy(0, 8, 1, 12, 0), 0);
        check.due("status()", t.status(), 0);
        check.due("copy one, the last", t.copy(0, 7, 1, 11, 1), 1);
    }

    private static void promise4WithinOneSheet() {
        LensTable t = new LensTable();
        t.sheet(0, 2, 16);
        fill(t, 0, 1, 2, 0, 100, 3, 4, 0, 100, 5, 6, 0, 100);
        check.due("copy onwards in one sheet", t.copy(0, 0, 0, 4, 12), 12);
        dueItems(t, 0, 0, 1, 2);
        dueItems(t, 0, 4, 1, 2);
        dueItems(t, 0, 8, 3, 4);
        dueItems(t, 0, 12, 5, 6);
        check.due("copy back in one sheet", t.copy(0, 8, 0, 4, 8), 8);
        dueItems(t, 0, 4, 3, 4);
        dueItems(t, 0, 8, 5, 6);
        dueItems(t, 0, 12, 5, 6);
        check.due("copy onto itself", t.copy(0, 0, 0, 0, 16), 16);
        dueItems(t, 0, 0, 1, 2);
    }

    private static void promise4Refused() {
        LensTable t = new LensTable();
        t.sheet(0, 2, 4);
        t.sheet(1, 2, 2);
        t.sheet(2, 1, 4);
        check.due("copy, no such sheet", t.copy(-1, 0, 0, 0, 0), Check.BAD);
        check.due("copy, no such sheet", t.copy(0, 0, 8, 0, 0), Check.BAD);
        check.due("copy, one is missing", t.copy(0, 0, 3, 0, 1), Check.NULL);
        check.due("copy, one is missing", t.copy(3, -1, 2, 0, 1), Check.NULL);
        check.due("status()", t.status(), 1);
        check.due("copy, BAD ahead of NULL", t.copy(3, 0, 8, 0, 1), Check.BAD);
        check.due("copy, two lanes, ahead of PLACE", t.copy(0, -1, 2, 9, 99), Check.STORE);
        check.due("status()", t.status(), 5);
        check.due("copy none, two lanes", t.copy(0, 0, 2, 0, 0), Check.STORE);
        int[][] places = {{-1, 0, 1}, {0, -1, 1}, {0, 0, -1}, {0, 0, 3}, {3, 0, 2}, {0, 1, 2}, {5, 0, 0}, {0, 3, 0},
            {MAX, 0, 1}, {0, MAX, 1}, {0, 0, MAX}, {MAX, 0, MAX}, {1, 0, MAX}, {0, 1, MAX}, {MIN, MIN, MIN}, {0, 0, MIN}};
        for (int[] p : places) {
            check.due("copy from " + p[0] + " to " + p[1] + ", " + p[2], t.copy(0, p[0], 1, p[1], p[2]), Check.PLACE);
            check.due("status()", t.status(), 2);
        }
        check.due("copy", t.copy(0, 2, 1, 0, 2), 2);
        check.due("status()", t.status(), 0);
    }

    private static void promise5Drop() {
        LensTable t = new LensTable();
        t.sheet(0, 0, 5);
        t.sheet(7, 2, 80);
        t.sheet(1, 2, 0);
        check.due("drop", t.drop(0), 5);
        check.due("drop again", t.drop(0), Check.NULL);
        check.due("status()", t.status(), 1);
        check.due("drop, none in it", t.drop(1), 0);
        check.due("status()", t.status(), 0);
        check.due("count(0)", t.count(0), 1);
        check.due("set what was dropped", t.set(0, 0, 1), Check.NULL);
        check.due("drop, no such sheet", t.drop(8), Check.BAD);
        check.due("drop, no such sheet", t.drop(-1), Check.BAD);
        check.due("status() after BAD", t.status(), 1);
        check.due("drop", t.drop(7), 80);
        t.sheet(7, 2, 4);
        t.set(7, 3, 100);
        dueItems(t, 7, 0, 0, 0);
    }

    private static void promise34Status() {
        LensTable t = new LensTable();
        t.thing(1000, 0, 1);
        t.set(0, 0, 0);
        check.due("status() NULL", t.status(), 1);
        t.room(0, 10);
        t.thing(0, 0, 1);
        t.thing(0, 0, 0);
        t.mark(0, 0, 1, 1);
        t.kind(0);
        t.ask(0, 0);
        t.count(0);
        t.bent();
        t.far(0, 0, 0);
        check.due("status() after calls without a sheet", t.status(), 1);
        check.due("as, no such kind", t.as(0, 1), Check.KIND);
        check.due("status() KIND", t.status(), 3);
        check.due("as, BAD", t.as(0, 4), Check.BAD);
        check.due("status() after BAD", t.status(), 3);
        check.due("as", t.as(0, 3), 1);
        check.due("status() after as", t.status(), 0);
        check.due("studio, missing", t.studio(0, 0, 0, 1, 0, 0, 0), Check.NULL);
        check.due("status() NULL", t.status(), 1);
        t.sheet(0, 2, 4);
        check.due("status() after sheet", t.status(), 0);
        check.due("studios, no place", t.studios(0, 0, 1, 1, 0, 0), Check.PLACE);
        check.due("status() PLACE", t.status(), 2);
        check.due("studios, an item", t.studios(0, 0, 0, 1, 0, 0), Check.BAD);
        check.due("status() after BAD behind PLACE", t.status(), 2);
        check.due("drop", t.drop(0), 4);
        check.due("status() after drop", t.status(), 0);
    }
}
