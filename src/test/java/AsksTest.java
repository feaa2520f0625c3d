/** Promises 29 to 34. */
public final class AsksTest {
    private static final Check check = new Check("AsksTest");
    private static final int MIN = Integer.MIN_VALUE, MAX = Integer.MAX_VALUE;

    public static void main(String[] args) {
        promise29Kind();
        promise29Edges();
        promise30As();
        promise31And32Asks();
        promise31Refused();
        promise32Trace();
        promise33Count();
        promise34Status();
        check.end();
    }

    /** THINGS by a lens of 80, an OPENING of 20: 0 SHARP by 0, 1 SHARP by 1, 2 SEEN by 8, 3 LOST. */
    private static LensTable fourKinds() {
        LensTable t = new LensTable();
        t.room(0, 80);
        t.room(1, 20);
        t.thing(200, 50, 400);
        t.thing(150, 50, 300);
        t.thing(-90, -80, 150);
        t.thing(-300, -80, 150);
        return t;
    }

    private static void promise29Kind() {
        LensTable t = fourKinds();
        int[] blurs = {0, 1, 8, 8};
        int[] kinds = {2, 2, 1, 3};
        for (int i = 0; i < 4; i++) {
            check.due("blur of " + i, t.picture(i, 8), blurs[i]);
            check.due("kind of " + i, t.kind(i), kinds[i]);
        }
        t.room(4, 8);
        check.due("by a grain as great as the blur", t.kind(2), 2);
        check.due("a lost one is not sharp", t.kind(3), 3);
        t.room(4, 7);
        check.due("by a grain below the blur", t.kind(2), 1);
        t.room(4, 0);
        check.due("by a grain of 0", t.kind(0), 2);
        check.due("by a grain of 0", t.kind(1), 1);
        t.room(5, 200);
        check.due("by a wider table", t.kind(3), 1);
        int[] none = {-1, 4, 24, MIN, MAX};
        for (int thing : none) {
            check.due("kind(" + thing + ")", t.kind(thing), Check.BAD);
        }
    }

    private static void promise29Edges() {
        LensTable t = new LensTable();
        t.thing(0, 0, 100);
        int[][] places = {{160, 0, 1}, {161, 0, 3}, {-160, 0, 1}, {-161, 0, 3}, {0, 100, 1}, {0, 101, 3}, {0, -100, 1}, {0, -101, 3},
            {160, -100, 1}, {161, -100, 3}, {160, 101, 3}};
        for (int[] p : places) {
            t.move(0, p[0], p[1], 100);
            check.due("kind at " + p[0] + ", " + p[1], t.kind(0), p[2]);
        }
    }

    private static void promise30As() {
        LensTable t = fourKinds();
        long[][] answers = {{400, 400, 400, Check.KIND}, {300, 300, 300, Check.KIND}, {150, 150, Check.KIND, Check.KIND},
            {150, Check.KIND, Check.KIND, 150}};
        for (int i = 0; i < 4; i++) {
            for (int kind = 0; kind < 4; kind++) {
                check.due("as(" + i + ", " + kind + ")", t.as(i, kind), answers[i][kind]);
                check.due("status()", t.status(), answers[i][kind] == Check.KIND ? 3 : 0);
            }
        }
        int[][] bad = {{-1, 0}, {4, 0}, {0, -1}, {0, 4}, {MIN, 0}, {MAX, 0}, {0, MIN}, {0, MAX}};
        for (int[] b : bad) {
            check.due("as(" + b[0] + ", " + b[1] + ")", t.as(b[0], b[1]), Check.BAD);
        }
    }

    private static void dueAsk(LensTable t, int thing, int what, int answer, int... begun) {
        check.due("ask(" + thing + ", " + what + ")", t.ask(thing, what), answer);
        for (int i = 0; i < 17; i++) {
            check.due("trace(" + i + ") of ask(" + thing + ", " + what + ")", t.trace(i), i < begun.length ? begun[i] : Check.NONE);
        }
    }

    private static void promise31And32Asks() {
        LensTable t = fourKinds();
        dueAsk(t, 0, 0, 800, 12, 11, 10);
        dueAsk(t, 0, 1, -2 + 100 + 800, 22, 21, 20, 12, 11, 10);
        dueAsk(t, 1, 0, 602, 12, 11, 10);
        dueAsk(t, 1, 1, -2 + 100 + 602, 22, 21, 20, 12, 11, 10);
        dueAsk(t, 2, 0, 158, 11, 10);
        dueAsk(t, 2, 1, 103, 21, 20);
        dueAsk(t, 3, 0, 150 - 1008, 13, 10, 23, 20);
        dueAsk(t, 3, 1, 1008, 23, 20);
        t.room(4, 8);
        dueAsk(t, 2, 0, 316, 12, 11, 10);
        dueAsk(t, 2, 1, 3 + 100 + 316, 22, 21, 20, 12, 11, 10);
    }

    private static void promise31Refused() {
        LensTable t = fourKinds();
        t.ask(3, 1);
        int[][] bad = {{-1, 0}, {4, 0}, {0, -1}, {0, 2}, {MIN, 0}, {MAX, 0}, {0, MIN}, {0, MAX}};
        for (int[] b : bad) {
            check.due("ask(" + b[0] + ", " + b[1] + ")", t.ask(b[0], b[1]), Check.BAD);
            check.due("trace(0) is as it was", t.trace(0), 23);
            check.due("trace(1) is as it was", t.trace(1), 20);
            check.due("trace(2) is as it was", t.trace(2), Check.NONE);
        }
    }

    private static void promise32Trace() {
        LensTable t = new LensTable();
        check.due("trace(0) at first", t.trace(0), Check.NONE);
        t.thing(0, 0, 100);
        t.ask(0, 0);
        t.kind(0);
        t.as(0, 0);
        t.count(2);
        t.move(0, 1000, 0, 1);
        check.due("trace(0) stays", t.trace(0), 11);
        check.due("trace(1) stays", t.trace(1), 10);
        int[] none = {-1, 2, 15, 16, 17, MIN, MAX};
        for (int i : none) {
            check.due("trace(" + i + ")", t.trace(i), Check.NONE);
        }
    }

    private static void dueCounts(LensTable t, int... counts) {
        for (int what = 0; what < 8; what++) {
            check.due("count(" + what + ")", t.count(what), counts[what]);
        }
    }

    private static void promise33Count() {
        LensTable t = fourKinds();
        dueCounts(t, 0, 4, 3, 2, 1, 0, 0, 0);
        t.sheet(0, 0, 0);
        t.sheet(5, 1, 3);
        t.sheet(5, 1, 3);
        t.mark(2, 0, 0, 0);
        t.mark(2, 23, 0, 0);
        t.mark(7, 0, 0, 0);
        t.bend(8, 1);
        t.bend(-8, -1);
        t.bend(0, 1);
        t.bend(0, 0);
        dueCounts(t, 2, 4, 3, 2, 1, 3, 2, 2);
        t.drop(0);
        t.rub(7, 0);
        t.room(5, 1);
        dueCounts(t, 1, 4, 0, 0, 4, 2, 1, 2);
        int[] none = {-1, 8, MIN, MAX};
        for (int what : none) {
            check.due("count(" + what + ")", t.count(what), Check.BAD);
        }
    }

    private static void promise34Status() {
        LensTable t = fourKinds();
        check.due("status() at first", t.status(), 0);
        t.sheet(0, 0, -1);
        check.due("status() SIZE", t.status(), 4);
        check.due("status() again", t.status(), 4);
        t.sheet(0, 0, 1);
        t.sheet(1, 1, 1);
        t.copy(0, 0, 1, 0, 1);
        check.due("status() STORE", t.status(), 5);
        t.as(3, 1);
        check.due("status() KIND", t.status(), 3);
        t.drop(2);
        check.due("status() NULL", t.status(), 1);
        t.set(0, 1, 0);
        check.due("status() PLACE", t.status(), 2);
        t.as(9, 0);
        t.drop(9);
        t.sheet(0, 0, 99);
        t.set(9, 0, 0);
        t.copy(9, 0, 0, 0, 0);
        t.studio(9, 0, 0, 1, 0, 0, 0);
        t.studios(9, 0, 0, 1, 0, 0);
        check.due("status() after BAD", t.status(), 2);
        t.copy(0, 0, 0, 0, 1);
        check.due("status() after copy", t.status(), 0);
    }
}
