/** The boundaries that the document names of a new object and of SHEETS: section 1, promises 1 to 5. */
public final class SheetEdgesTest {
    private static final Check check = new Check("SheetEdgesTest");
    private static final int MIN = Integer.MIN_VALUE, MAX = Integer.MAX_VALUE;

    public static void main(String[] args) {
        promise1NothingElse();
        promise1RoomsAsToldAtFirst();
        promise1EachObjectIsNew();
        promise2WhichSheet();
        promise2WhichLane();
        promise2HowManyItems();
        promise2BadAheadOfSize();
        promise2InPlaceOfWhatIsThere();
        promise2ItemsAreZeroAtFirst();
        promise3WhichSheet();
        promise3Missing();
        promise3WhichPlace();
        promise3LowestBits();
        promise3AnswersLikeRefusals();
        promise4WhichSheets();
        promise4Missing();
        promise4TwoLanes();
        promise4EndsOfTheFirst();
        promise4EndsOfTheSecond();
        promise4None();
        promise4FewerThanNone();
        promise4TooGreatToAdd();
        promise4WholeSheets();
        promise4AsTheyWereAhead();
        promise5WhichSheet();
        promise5MissingFromNowOn();
        check.end();
    }

    private static Edge edge(String sentence) {
        return new Edge(check, sentence);
    }

    private static void promise1NothingElse() {
        Edge e = edge("A new object: nothing else");
        for (int i = 0; i < 8; i++) {
            e.taken(0, "count", i);
            e.finds(Check.NULL, "drop", i);
            e.taken(Check.NONE, "marked", i, 0, 0);
            e.taken(Check.NONE, "marked", i, 23, 1);
        }
        int[] numbers = {0, 10, 100, 0, 5, 160, 100};
        for (int which = 0; which < 24; which++) {
            e.taken(which < 7 ? numbers[which] : 0, "told", which);
        }
        e.bad("kind", 0).bad("picture", 0, 0).bad("ask", 0, 0).bad("as", 0, 0);
        e.taken(Check.NONE, "trace", 0).then(0, "bent").then(0, "thing", 0, 0, 1);
    }

    private static void promise1RoomsAsToldAtFirst() {
        // UPPER is 60 times 100 times 100 only by a w of 0, LOWER 20 and 40 times 100 only by a DEPTH of 100
        edge("100, at 0, 0, 0, both at first: room 0").given("stand", 1, 60, 0, 0, 100)
            .taken(600000, "far", -20, 40, 0).taken(6000, "far", -20, 40, 1).taken(0, "high", -20, 40, 0);
        edge("100, at 0, 0, 0, both at first: room 1").given("stand", 0, -60, 0, 0, 100)
            .taken(600000, "far", -20, 40, 0).taken(6000, "far", -20, 40, 1);
        edge("100, at 0, 0, 0, both at first: they are at one place")
            .taken(Check.NONE, "far", -20, 40, 0).taken(Check.NONE, "far", 40, -20, 1);
    }

    /** What one object has is not another's, and stays when others are made and used. */
    private static void promise1EachObjectIsNew() {
        LensTable used = new LensTable();
        LensTable other = new LensTable();
        used.sheet(0, 2, 4);
        used.room(0, 50);
        used.bend(0, 5);
        used.thing(7, 8, 9);
        used.mark(0, 0, 1, 1);
        used.stand(1, 60, 0, 0, 100);
        used.ask(0, 0);
        used.drop(1);
        LensTable[] fresh = {other, new LensTable()};
        for (LensTable t : fresh) {
            check.due("status() beside a used object", t.status(), 0);
            check.due("trace(0) beside a used object", t.trace(0), Check.NONE);
            check.due("told(0) beside a used object", t.told(0), 0);
            check.due("far beside a used object", t.far(-20, 40, 0), Check.NONE);
            for (int i = 0; i < 8; i++) {
                check.due("count(" + i + ") beside a used object", t.count(i), 0);
            }
            t.thing(1, 1, 1);
            t.mark(0, 0, 2, 2);
            t.sheet(0, 0, 7);
            t.stand(1, 20, 0, 0, 100);
        }
        check.due("status() of the used object", used.status(), 1);
        check.due("trace(0) of the used object", used.trace(0), 11);
        check.due("told(0) of the used object", used.told(0), 50);
        check.due("told(15) of the used object", used.told(15), 5);
        check.due("picture(0, 2) of the used object", used.picture(0, 2), 9);
        check.due("marked(0, 0, 0) of the used object", used.marked(0, 0, 0), 1);
        check.due("far of the used object", used.far(-20, 40, 0), 600000);
        check.due("drop(0) of the used object", used.drop(0), 4);
    }

    private static void promise2WhichSheet() {
        edge("sheet: BAD: SHEET").given("sheet", 0, 1, 3).given("sheet", 7, 1, 3)
            .taken(4, "sheet", 0, 2, 4).bad("sheet", -1, 2, 4).bad("sheet", MIN, 2, 4)
            .taken(4, "sheet", 7, 2, 4).bad("sheet", 8, 2, 4).bad("sheet", MAX, 2, 4);
    }

    private static void promise2WhichLane() {
        edge("sheet: BAD: LANE").given("sheet", 3, 1, 2)
            .taken(4, "sheet", 3, 0, 4).then(-128, "set", 3, 0, 128).bad("sheet", 3, -1, 4).bad("sheet", 3, MIN, 4)
            .taken(4, "sheet", 3, 1, 4).then(-32768, "set", 3, 0, 32768)
            .taken(4, "sheet", 3, 2, 4).then(32768, "set", 3, 0, 32768).bad("sheet", 3, 3, 4).bad("sheet", 3, MAX, 4);
    }

    private static void promise2HowManyItems() {
        Edge e = edge("sheet: n above 80; SIZE").given("sheet", 0, 1, 8).given("set", 0, 7, 9);
        for (int lane = 0; lane < 3; lane++) {
            e.taken(80, "sheet", 0, lane, 80).then(5, "set", 0, 79, 5).then(Check.PLACE, "set", 0, 80, 5);
            e.bad("sheet", 0, lane, 81).bad("sheet", 0, lane, MAX);
            e.taken(0, "sheet", 0, lane, 0).then(Check.PLACE, "set", 0, 0, 5).then(1, "count", 0);
            e.finds(Check.SIZE, "sheet", 0, lane, -1).finds(Check.SIZE, "sheet", 0, lane, MIN);
            e.finds(Check.SIZE, "sheet", 1, lane, -1);
        }
        e.taken(1, "sheet", 0, 2, 1).then(5, "set", 0, 0, 5).then(Check.PLACE, "set", 0, 1, 5);
    }

    private static void promise2BadAheadOfSize() {
        edge("BAD, then FINDINGS: sheet").given("sheet", 0, 1, 8)
            .bad("sheet", -1, 2, -1).bad("sheet", 8, 2, -1).bad("sheet", 0, -1, -1).bad("sheet", 0, 3, -1)
            .finds(Check.SIZE, "sheet", 0, 2, -1);
    }

    private static void promise2InPlaceOfWhatIsThere() {
        edge("sheet: in place of what is there").given("sheet", 0, 2, 8).given("set", 0, 3, 100).given("set", 0, 7, 100)
            .taken(0, "studio", 0, 0, 0, 2, 0, 0, 0)
            .taken(8, "sheet", 0, 2, 8).then(Check.BAD, "studio", 0, 0, 0, 1, 0, 0, 0).then(1, "count", 0)
            .taken(7, "sheet", 0, 2, 7).then(Check.PLACE, "set", 0, 7, 1).then(1, "set", 0, 6, 1)
            .taken(9, "sheet", 0, 2, 9).then(1, "set", 0, 8, 1).then(Check.BAD, "studio", 0, 0, 4, 1, 0, 0, 0)
            .taken(8, "sheet", 0, 0, 8).then(44, "set", 0, 0, 300).then(8, "drop", 0)
            .taken(0, "sheet", 0, 2, 0).then(0, "drop", 0).then(0, "count", 0);
    }

    /** By a THING at 100, 100, 100 only u, v, w of 0 put it at -100, -100 with a DEPTH of 100. */
    private static void promise2ItemsAreZeroAtFirst() {
        Edge e = edge("ITEMS, 0 at first").given("thing", 100, 100, 100).given("mark", 0, 0, -100, -100);
        e.given("sheet", 0, 2, 80);
        for (int k = 0; k < 20; k++) {
            e.bad("studio", 0, 0, 4 * k, 1, 0, 0, 1);
        }
        for (int k = 0; k < 20; k++) {
            e.given("set", 0, 4 * k + 3, 100);
        }
        e.taken(20, "studios", 0, 0, 0, 20, 0, 1);
        // laid anew, and after it was missing
        for (int i = 0; i < 3; i++) {
            e.given("set", 0, i, 1);
        }
        Edge dropped = edge("ITEMS, 0 at first, when it was missing").given("thing", 100, 100, 100).given("mark", 0, 0, -100, -100)
            .given("sheet", 0, 2, 4).given("set", 0, 0, 9).given("set", 0, 3, 9).given("drop", 0).given("sheet", 0, 2, 4);
        dropped.bad("studio", 0, 0, 0, 1, 0, 0, 1).taken(100, "set", 0, 3, 100).then(1, "studio", 0, 0, 0, 1, 0, 0, 1);
        e.taken(4, "sheet", 0, 2, 4).then(100, "set", 0, 3, 100).then(1, "studio", 0, 0, 0, 1, 0, 0, 1);
    }

    private static void promise3WhichSheet() {
        edge("set: BAD: SHEET").given("sheet", 0, 2, 4).given("sheet", 7, 2, 4)
            .taken(5, "set", 0, 0, 5).bad("set", -1, 0, 5).bad("set", MIN, 0, 5)
            .taken(5, "set", 7, 0, 5).bad("set", 8, 0, 5).bad("set", MAX, 0, 5)
            .bad("set", -1, -1, 5).bad("set", 8, 4, 5);
    }

    private static void promise3Missing() {
        edge("set: NULL").given("sheet", 0, 2, 4)
            .finds(Check.NULL, "set", 1, 0, 5).finds(Check.NULL, "set", 7, 0, 5)
            .finds(Check.NULL, "set", 1, -1, 5).finds(Check.NULL, "set", 1, 80, 5)
            .given("drop", 0).finds(Check.NULL, "set", 0, 0, 5)
            .given("sheet", 0, 2, 1).taken(5, "set", 0, 0, 5);
    }

    private static void promise3WhichPlace() {
        edge("set: PLACE").given("sheet", 0, 2, 4).given("set", 0, 0, 8).given("set", 0, 3, 9)
            .taken(5, "set", 0, 0, 5).finds(Check.PLACE, "set", 0, -1, 5).finds(Check.PLACE, "set", 0, MIN, 5)
            .taken(5, "set", 0, 3, 5).finds(Check.PLACE, "set", 0, 4, 5).finds(Check.PLACE, "set", 0, 79, 5)
            .finds(Check.PLACE, "set", 0, 80, 5).finds(Check.PLACE, "set", 0, MAX, 5);
        edge("set: PLACE of a SHEET of 80").given("sheet", 0, 0, 80)
            .taken(5, "set", 0, 79, 5).finds(Check.PLACE, "set", 0, 80, 5).finds(Check.PLACE, "set", 0, -1, 5);
        edge("set: PLACE of a SHEET of 1").given("sheet", 0, 1, 1)
            .taken(5, "set", 0, 0, 5).finds(Check.PLACE, "set", 0, 1, 5);
        edge("set: PLACE of a SHEET of none").given("sheet", 0, 1, 0)
            .finds(Check.PLACE, "set", 0, 0, 5).finds(Check.PLACE, "set", 0, -1, 5);
    }

    private static void promise3LowestBits() {
        edge("set: its lowest bits: bytes").given("sheet", 0, 0, 2)
            .taken(127, "set", 0, 0, 127).taken(-128, "set", 0, 0, 128).taken(-128, "set", 0, 0, -128).taken(127, "set", 0, 0, -129)
            .taken(-1, "set", 0, 0, 255).taken(0, "set", 0, 0, 256).taken(-1, "set", 0, 0, -1).taken(0, "set", 0, 0, -256)
            .taken(-1, "set", 0, 0, MAX).taken(0, "set", 0, 0, MIN).taken(0, "set", 0, 1, 0);
        edge("set: its lowest bits: shorts").given("sheet", 0, 1, 2)
            .taken(128, "set", 0, 0, 128).taken(32767, "set", 0, 0, 32767).taken(-32768, "set", 0, 0, 32768)
            .taken(-32768, "set", 0, 0, -32768).taken(32767, "set", 0, 0, -32769).taken(-1, "set", 0, 0, 65535)
            .taken(0, "set", 0, 0, 65536).taken(-1, "set", 0, 0, MAX).taken(0, "set", 0, 0, MIN);
        edge("set: its lowest bits: ints").given("sheet", 0, 2, 2)
            .taken(32768, "set", 0, 0, 32768).taken(-32769, "set", 0, 0, -32769).taken(65536, "set", 0, 1, 65536)
            .taken(MAX, "set", 0, 0, MAX).taken(MIN, "set", 0, 0, MIN);
        // what is kept is what it is then: a byte of 256 and 100 is a DEPTH of 100
        edge("set: what it is then").given("sheet", 0, 0, 4).given("set", 0, 0, 256 + 7).given("set", 0, 3, 256 + 100)
            .given("thing", 0, 0, 100).given("mark", 0, 0, 7, 0).taken(1, "studio", 0, 0, 0, 1, 0, 0, 1);
    }

    /** An ITEM may be as low as what refuses: it is taken all the same. */
    private static void promise3AnswersLikeRefusals() {
        Edge e = edge("set: what it is then, though it looks like a refusal").given("sheet", 0, 2, 2);
        for (int v = -1000016; v <= -999999; v++) {
            e.taken(v, "set", 0, 0, v).then(0, "status");
        }
    }

    private static void promise4WhichSheets() {
        edge("copy: BAD: SHEETS").given("sheet", 0, 2, 4).given("sheet", 7, 2, 4).given("set", 0, 1, 6)
            .taken(4, "copy", 0, 0, 7, 0, 4).taken(4, "copy", 7, 0, 0, 0, 4)
            .bad("copy", -1, 0, 7, 0, 4).bad("copy", 8, 0, 7, 0, 4).bad("copy", MIN, 0, 7, 0, 4).bad("copy", MAX, 0, 7, 0, 4)
            .bad("copy", 0, 0, -1, 0, 4).bad("copy", 0, 0, 8, 0, 4).bad("copy", 0, 0, MIN, 0, 4).bad("copy", 0, 0, MAX, 0, 4)
            .bad("copy", 1, 0, 8, 0, 4).bad("copy", -1, 0, 1, 0, 4).bad("copy", 0, -1, 8, 0, 4).bad("copy", 8, 0, 0, 0, -1);
    }

    private static void promise4Missing() {
        edge("copy: NULL").given("sheet", 0, 2, 4).given("sheet", 2, 0, 4)
            .taken(1, "copy", 0, 0, 0, 0, 1)
            .finds(Check.NULL, "copy", 0, 0, 1, 0, 1).finds(Check.NULL, "copy", 1, 0, 0, 0, 1)
            .finds(Check.NULL, "copy", 1, 0, 1, 0, 1).finds(Check.NULL, "copy", 1, 0, 3, 0, 0)
            .finds(Check.NULL, "copy", 2, 0, 1, 0, 0).finds(Check.NULL, "copy", 1, 0, 2, 0, 0)
            .finds(Check.NULL, "copy", 0, -1, 1, 0, 1).finds(Check.NULL, "copy", 1, 0, 0, 5, 1)
            .finds(Check.NULL, "copy", 0, 0, 1, 0, -1);
    }

    private static void promise4TwoLanes() {
        Edge e = edge("copy: STORE");
        for (int lane = 0; lane < 3; lane++) {
            e.given("sheet", lane, lane, 4).given("sheet", lane + 3, lane, 4).given("set", lane, 0, 5 + lane);
        }
        for (int a = 0; a < 3; a++) {
            for (int b = 3; b < 6; b++) {
                if (b - a == 3) {
                    e.taken(4, "copy", a, 0, b, 0, 4).taken(0, "copy", b, 4, a, 4, 0);
                } else {
                    e.finds(Check.STORE, "copy", a, 0, b, 0, 4).finds(Check.STORE, "copy", b, 0, a, 0, 0);
                    e.finds(Check.STORE, "copy", a, -1, b, 0, 1).finds(Check.STORE, "copy", a, 0, b, 5, 1);
                    e.finds(Check.STORE, "copy", a, 0, b, 0, -1);
                }
            }
        }
    }

    /** SHEET 0 of 4, SHEET 1 of 6, SHEET 2 of none, with ITEMS that can be told from one another. */
    private static Edge fourAndSix(String sentence) {
        Edge e = edge(sentence).given("sheet", 0, 2, 4).given("sheet", 1, 2, 6).given("sheet", 2, 2, 0);
        for (int i = 0; i < 6; i++) {
            e.given("set", 0, i, 10 + i).given("set", 1, i, 20 + i);
        }
        return e;
    }

    private static void promise4EndsOfTheFirst() {
        fourAndSix("copy: PLACE: i below 0, or beyond an end of a")
            .taken(4, "copy", 0, 0, 1, 0, 4).finds(Check.PLACE, "copy", 0, 0, 1, 0, 5)
            .taken(3, "copy", 0, 1, 1, 0, 3).finds(Check.PLACE, "copy", 0, 1, 1, 0, 4)
            .taken(1, "copy", 0, 3, 1, 0, 1).finds(Check.PLACE, "copy", 0, 4, 1, 0, 1)
            .finds(Check.PLACE, "copy", 0, -1, 1, 0, 1).finds(Check.PLACE, "copy", 0, MIN, 1, 0, 1)
            .finds(Check.PLACE, "copy", 0, -1, 1, 0, 0).finds(Check.PLACE, "copy", 0, MAX, 1, 0, 1)
            .finds(Check.PLACE, "copy", 2, 0, 1, 0, 1);
    }

    private static void promise4EndsOfTheSecond() {
        fourAndSix("copy: PLACE: j below 0, or beyond an end of b")
            .taken(4, "copy", 0, 0, 1, 2, 4).finds(Check.PLACE, "copy", 0, 0, 1, 3, 4)
            .taken(4, "copy", 1, 0, 0, 0, 4).finds(Check.PLACE, "copy", 1, 0, 0, 0, 5)
            .taken(1, "copy", 0, 0, 1, 5, 1).finds(Check.PLACE, "copy", 0, 0, 1, 6, 1)
            .finds(Check.PLACE, "copy", 0, 0, 1, -1, 1).finds(Check.PLACE, "copy", 0, 0, 1, MIN, 1)
            .finds(Check.PLACE, "copy", 0, 0, 1, -1, 0).finds(Check.PLACE, "copy", 0, 0, 1, MAX, 1)
            .finds(Check.PLACE, "copy", 1, 0, 2, 0, 1);
    }

    private static void promise4None() {
        fourAndSix("copy: PLACE: n of 0 at the ends")
            .taken(0, "copy", 0, 0, 1, 0, 0).taken(0, "copy", 0, 4, 1, 6, 0)
            .finds(Check.PLACE, "copy", 0, 5, 1, 0, 0).finds(Check.PLACE, "copy", 0, 0, 1, 7, 0)
            .taken(0, "copy", 2, 0, 2, 0, 0).finds(Check.PLACE, "copy", 2, 1, 2, 0, 0).finds(Check.PLACE, "copy", 2, 0, 2, 1, 0);
    }

    private static void promise4FewerThanNone() {
        fourAndSix("copy: PLACE: n below 0")
            .taken(0, "copy", 0, 1, 1, 1, 0).finds(Check.PLACE, "copy", 0, 1, 1, 1, -1).finds(Check.PLACE, "copy", 0, 0, 1, 0, MIN)
            .finds(Check.PLACE, "copy", 0, 5, 1, 7, -1).finds(Check.PLACE, "copy", 0, 4, 1, 6, -4)
            .finds(Check.PLACE, "copy", 0, MAX, 1, MAX, MIN);
    }

    private static void promise4TooGreatToAdd() {
        fourAndSix("copy: PLACE: i, j and n that wrap around when added")
            .finds(Check.PLACE, "copy", 0, 1, 1, 0, MAX).finds(Check.PLACE, "copy", 0, 0, 1, 1, MAX)
            .finds(Check.PLACE, "copy", 0, MAX, 1, 0, MAX).finds(Check.PLACE, "copy", 0, 0, 1, MAX, MAX)
            .finds(Check.PLACE, "copy", 0, MAX, 1, MAX, MAX).finds(Check.PLACE, "copy", 0, MAX, 1, MAX, 1)
            .finds(Check.PLACE, "copy", 0, MIN, 1, MIN, MIN).finds(Check.PLACE, "copy", 0, MAX - 3, 1, 0, 4);
    }

    private static void promise4WholeSheets() {
        edge("copy: 80 ITEMS").given("sheet", 0, 1, 80).given("sheet", 1, 1, 80).given("set", 0, 79, 300)
            .taken(80, "copy", 0, 0, 1, 0, 80).finds(Check.PLACE, "copy", 0, 0, 1, 0, 81)
            .taken(79, "copy", 0, 1, 1, 1, 79).finds(Check.PLACE, "copy", 0, 1, 1, 1, 80)
            .taken(0, "copy", 0, 80, 1, 80, 0).finds(Check.PLACE, "copy", 0, 81, 1, 80, 0);
    }

    /** ITEMS 1 .. 8, and a THING at 100, 100, 101: STUDIO u, u + 1, u + 2, u + 3 of these puts it at - (u + 3), - (u + 3). */
    private static void promise4AsTheyWereAhead() {
        Edge e = edge("copy: as they were ahead").given("sheet", 0, 2, 8).given("thing", 100, 100, 101);
        for (int i = 0; i < 8; i++) {
            e.given("set", 0, i, i + 1).given("mark", i, 0, -i, -i);
        }
        // behind it they are 1, 1, 2, 3, 4, 5, 6, 7: one that came over itself would make them all 1
        e.taken(7, "copy", 0, 0, 0, 1, 7).then(1, "studio", 3, 0, 0, 1, 0, 0, 1).then(1, "studio", 7, 0, 4, 1, 0, 0, 1);
        // 2, 3, 4, 5, 6, 7, 8, 8: one that came from the end on would make them all 8
        e.taken(7, "copy", 0, 1, 0, 0, 7).then(1, "studio", 5, 0, 0, 1, 0, 0, 1);
        e.taken(8, "copy", 0, 0, 0, 0, 8).then(1, "studio", 4, 0, 0, 1, 0, 0, 1);
    }

    private static void promise5WhichSheet() {
        edge("drop: BAD").given("sheet", 0, 0, 0).given("sheet", 7, 2, 80)
            .taken(0, "drop", 0).then(1, "count", 0).bad("drop", -1).bad("drop", MIN)
            .taken(80, "drop", 7).then(1, "count", 0).bad("drop", 8).bad("drop", MAX);
    }

    private static void promise5MissingFromNowOn() {
        edge("drop: NULL").given("sheet", 0, 2, 4)
            .finds(Check.NULL, "drop", 1).finds(Check.NULL, "drop", 7)
            .taken(4, "drop", 0).then(Check.NULL, "drop", 0).then(1, "status").then(Check.NULL, "set", 0, 0, 1)
            .then(Check.NULL, "copy", 0, 0, 0, 0, 0).then(Check.NULL, "studio", 0, 0, 0, 1, 0, 0, 0)
            .then(Check.NULL, "studios", 0, 0, 0, 1, 0, 0).then(0, "count", 0).then(3, "sheet", 0, 0, 3).then(3, "drop", 0);
    }
}
