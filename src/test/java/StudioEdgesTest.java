/** The boundaries that the document names of PAINTINGS and STUDIOS: section 3, promises 25 and 26. */
public final class StudioEdgesTest {
    private static final Check check = new Check("StudioEdgesTest");
    private static final int MIN = Integer.MIN_VALUE, MAX = Integer.MAX_VALUE;
    private static final int INTS = 2;

    public static void main(String[] args) {
        whichTrace();
        whichSheet();
        howManyStudios();
        promise25WhichStudio();
        whichDoubt();
        what();
        missing();
        whichPlace();
        twentyStudios();
        tooShort();
        itemsOfAStudio();
        itemsOfSomeStudio();
        itemsOfOtherLanes();
        badAheadOfFindings();
        badBehindFindings();
        notAtAll();
        fromBehind();
        fiveHundredAtMost();
        allMarks();
        marksOfThingsThatAreThere();
        madeByADoubt();
        madeInXAndInY();
        putIsCut();
        promise26TheFirstOfSeveral();
        promise26HowManyMade();
        promise26MarksOfNone();
        check.end();
    }

    private static Edge edge(String sentence) {
        return new Edge(check, sentence);
    }

    private static Edge lay(Edge e, int sheet, int lane, int... items) {
        e.given("sheet", sheet, lane, items.length);
        for (int i = 0; i < items.length; i++) {
            e.given("set", sheet, i, items[i]);
        }
        return e;
    }

    /** A THING that each STUDIO at u, 0, 0 of DEPTH 100 puts at u, 0; a MARK of it at 3, 0 on TRACES 0 and 7. */
    private static Edge oneThing(String sentence) {
        return edge(sentence).given("thing", 0, 0, 100).given("mark", 0, 0, 3, 0).given("mark", 7, 0, 3, 0);
    }

    /** STUDIOS at 3, at 10 and at 40: they are 0, 7 and 37 off. */
    private static Edge threeStudios(String sentence) {
        return lay(oneThing(sentence), 0, INTS, 3, 0, 0, 100, 10, 0, 0, 100, 40, 0, 0, 100);
    }

    private static void whichTrace() {
        threeStudios("studio, studios: BAD: TRACE")
            .taken(7, "studio", 0, 0, 0, 3, 1, 0, 0).taken(7, "studio", 7, 0, 0, 3, 1, 0, 0).taken(0, "studio", 6, 0, 0, 3, 1, 0, 0)
            .bad("studio", -1, 0, 0, 3, 1, 0, 0).bad("studio", 8, 0, 0, 3, 1, 0, 0)
            .bad("studio", MIN, 0, 0, 3, 1, 0, 0).bad("studio", MAX, 0, 0, 3, 1, 0, 0)
            .taken(1, "studios", 0, 0, 0, 3, 0, 1).taken(1, "studios", 7, 0, 0, 3, 0, 1).taken(3, "studios", 6, 0, 0, 3, 0, 1)
            .bad("studios", -1, 0, 0, 3, 0, 1).bad("studios", 8, 0, 0, 3, 0, 1)
            .bad("studios", MIN, 0, 0, 3, 0, 1).bad("studios", MAX, 0, 0, 3, 0, 1);
    }

    private static void whichSheet() {
        Edge e = lay(threeStudios("studio, studios: BAD: SHEET"), 7, INTS, 8, 0, 0, 100);
        e.taken(0, "studio", 0, 0, 0, 1, 0, 0, 0).taken(5, "studio", 0, 7, 0, 1, 0, 0, 0);
        e.bad("studio", 0, -1, 0, 1, 0, 0, 0).bad("studio", 0, 8, 0, 1, 0, 0, 0);
        e.bad("studio", 0, MIN, 0, 1, 0, 0, 0).bad("studio", 0, MAX, 0, 1, 0, 0, 0);
        e.taken(1, "studios", 0, 0, 0, 1, 0, 1).taken(0, "studios", 0, 7, 0, 1, 0, 1);
        e.bad("studios", 0, -1, 0, 1, 0, 1).bad("studios", 0, 8, 0, 1, 0, 1);
        e.bad("studios", 0, MIN, 0, 1, 0, 1).bad("studios", 0, MAX, 0, 1, 0, 1);
    }

    private static void howManyStudios() {
        threeStudios("studio, studios: BAD: n (1 to 20)")
            .taken(0, "studio", 0, 0, 0, 1, 0, 0, 0).bad("studio", 0, 0, 0, 0, 0, 0, 0).bad("studio", 0, 0, 0, -1, 0, 0, 0)
            .bad("studio", 0, 0, 0, MIN, 0, 0, 0).finds(Check.PLACE, "studio", 0, 0, 0, 20, 0, 0, 0)
            .bad("studio", 0, 0, 0, 21, 0, 0, 0).bad("studio", 0, 0, 0, MAX, 0, 0, 0)
            .taken(1, "studios", 0, 0, 0, 1, 0, 1).bad("studios", 0, 0, 0, 0, 0, 1).bad("studios", 0, 0, 0, -1, 0, 1)
            .bad("studios", 0, 0, 0, MIN, 0, 1).finds(Check.PLACE, "studios", 0, 0, 0, 20, 0, 1)
            .bad("studios", 0, 0, 0, 21, 0, 1).bad("studios", 0, 0, 0, MAX, 0, 1)
            // by these n the number of ITEMS would wrap around to 0, and to 4
            .bad("studios", 0, 0, 0, 1 << 30, 0, 1).bad("studios", 0, 0, 0, (1 << 30) + 1, 0, 1);
    }

    private static void promise25WhichStudio() {
        threeStudios("studio: BAD: k of n")
            .taken(0, "studio", 0, 0, 0, 3, 0, 0, 0).bad("studio", 0, 0, 0, 3, -1, 0, 0).bad("studio", 0, 0, 0, 3, MIN, 0, 0)
            .taken(37, "studio", 0, 0, 0, 3, 2, 0, 0).bad("studio", 0, 0, 0, 3, 3, 0, 0).bad("studio", 0, 0, 0, 3, MAX, 0, 0)
            .taken(7, "studio", 0, 0, 0, 2, 1, 0, 0).bad("studio", 0, 0, 0, 2, 2, 0, 0)
            .taken(0, "studio", 0, 0, 0, 1, 0, 0, 0).bad("studio", 0, 0, 0, 1, 1, 0, 0)
            .bad("studio", 0, 1, 0, 3, 3, 0, 0).bad("studio", 0, 0, -1, 3, 3, 0, 0);
    }

    private static void whichDoubt() {
        threeStudios("studio, studios: BAD: a doubt e (0 to 20)")
            .taken(1, "studio", 0, 0, 0, 3, 0, 0, 1).bad("studio", 0, 0, 0, 3, 0, -1, 1).bad("studio", 0, 0, 0, 3, 0, MIN, 1)
            .taken(1, "studio", 0, 0, 0, 3, 0, 20, 1).bad("studio", 0, 0, 0, 3, 0, 21, 1).bad("studio", 0, 0, 0, 3, 0, MAX, 1)
            .bad("studio", 0, 0, 0, 3, 0, -1, 0).bad("studio", 0, 0, 0, 3, 0, 21, 0)
            .taken(1, "studios", 0, 0, 0, 3, 0, 1).bad("studios", 0, 0, 0, 3, -1, 1).bad("studios", 0, 0, 0, 3, MIN, 1)
            .taken(2, "studios", 0, 0, 0, 3, 20, 1).bad("studios", 0, 0, 0, 3, 21, 1).bad("studios", 0, 0, 0, 3, MAX, 1)
            .bad("studios", 0, 0, 0, 3, -1, 0).bad("studios", 0, 0, 0, 3, 21, 2);
    }

    private static void what() {
        threeStudios("studio: BAD: what 0, 1; studios: what 0 to 2")
            .taken(7, "studio", 0, 0, 0, 3, 1, 7, 0).bad("studio", 0, 0, 0, 3, 1, 7, -1).bad("studio", 0, 0, 0, 3, 1, 7, MIN)
            .taken(1, "studio", 0, 0, 0, 3, 1, 7, 1).bad("studio", 0, 0, 0, 3, 1, 7, 2).bad("studio", 0, 0, 0, 3, 1, 7, MAX)
            .taken(0, "studios", 0, 0, 0, 3, 7, 0).bad("studios", 0, 0, 0, 3, 7, -1).bad("studios", 0, 0, 0, 3, 7, MIN)
            .taken(2, "studios", 0, 0, 0, 3, 7, 1)
            .taken(0, "studios", 0, 0, 0, 3, 7, 2).bad("studios", 0, 0, 0, 3, 7, 3).bad("studios", 0, 0, 0, 3, 7, MAX);
    }

    private static void missing() {
        threeStudios("studio, studios: NULL")
            .finds(Check.NULL, "studio", 0, 1, 0, 1, 0, 0, 0).finds(Check.NULL, "studios", 0, 7, 0, 1, 0, 0)
            .finds(Check.NULL, "studio", 0, 1, -1, 20, 0, 0, 0).finds(Check.NULL, "studios", 0, 1, 80, 20, 0, 0)
            .taken(0, "studio", 0, 0, 0, 1, 0, 0, 0)
            .given("drop", 0).finds(Check.NULL, "studio", 0, 0, 0, 1, 0, 0, 0).finds(Check.NULL, "studios", 0, 0, 0, 1, 0, 0);
    }

    /** 12 ITEMS: a row that begins behind the first is of other numbers, and these are no STUDIO. */
    private static void whichPlace() {
        threeStudios("studio, studios: PLACE: ITEMS from i on")
            .taken(37, "studio", 0, 0, 0, 3, 2, 0, 0).finds(Check.PLACE, "studio", 0, 0, -1, 3, 2, 0, 0)
            .finds(Check.PLACE, "studio", 0, 0, 1, 3, 2, 0, 0).finds(Check.PLACE, "studio", 0, 0, 0, 4, 2, 0, 0)
            .taken(37, "studio", 0, 0, 8, 1, 0, 0, 0).finds(Check.PLACE, "studio", 0, 0, 9, 1, 0, 0, 0)
            .taken(37, "studio", 0, 0, 4, 2, 1, 0, 0).finds(Check.PLACE, "studio", 0, 0, 5, 2, 1, 0, 0)
            .finds(Check.PLACE, "studio", 0, 0, 12, 1, 0, 0, 0).finds(Check.PLACE, "studio", 0, 0, MIN, 1, 0, 0, 0)
            .finds(Check.PLACE, "studio", 0, 0, MAX, 1, 0, 0, 0).finds(Check.PLACE, "studio", 0, 0, MAX - 3, 1, 0, 0, 0)
            .taken(2, "studios", 0, 0, 0, 3, 20, 1).finds(Check.PLACE, "studios", 0, 0, -1, 3, 20, 1)
            .finds(Check.PLACE, "studios", 0, 0, 1, 3, 20, 1).finds(Check.PLACE, "studios", 0, 0, 0, 4, 20, 1)
            .taken(0, "studios", 0, 0, 8, 1, 20, 1).finds(Check.PLACE, "studios", 0, 0, 9, 1, 20, 1)
            .finds(Check.PLACE, "studios", 0, 0, 12, 1, 20, 1).finds(Check.PLACE, "studios", 0, 0, MIN, 1, 20, 1)
            .finds(Check.PLACE, "studios", 0, 0, MAX, 1, 20, 1).finds(Check.PLACE, "studios", 0, 0, MAX - 79, 20, 20, 1);
    }

    private static void twentyStudios() {
        Edge e = oneThing("STUDIOS are n rows (1 to 20) of a SHEET of 80").given("sheet", 0, INTS, 80);
        for (int k = 0; k < 20; k++) {
            e.given("set", 0, 4 * k, 22 - k).given("set", 0, 4 * k + 3, 100);
        }
        // the last of them is at 3
        e.taken(0, "studio", 0, 0, 0, 20, 19, 0, 0).bad("studio", 0, 0, 0, 20, 20, 0, 0).bad("studio", 0, 0, 0, 21, 19, 0, 0);
        e.taken(19, "studio", 0, 0, 0, 20, 0, 0, 0).finds(Check.PLACE, "studio", 0, 0, 1, 20, 0, 0, 0);
        e.taken(18, "studio", 0, 0, 4, 19, 0, 0, 0).finds(Check.PLACE, "studio", 0, 0, 5, 19, 0, 0, 0);
        e.taken(19, "studios", 0, 0, 0, 20, 0, 0).taken(18, "studios", 0, 0, 4, 19, 0, 0).taken(20, "studios", 0, 0, 0, 20, 19, 1);
        e.taken(19, "studios", 0, 0, 0, 20, 18, 1).taken(0, "studios", 0, 0, 0, 20, 0, 2).taken(1, "studios", 0, 0, 0, 19, 0, 2);
        e.taken(0, "studios", 0, 0, 76, 1, 0, 0).finds(Check.PLACE, "studios", 0, 0, 77, 1, 0, 0);
        e.finds(Check.PLACE, "studios", 0, 0, 80, 1, 0, 0).bad("studios", 0, 0, 0, 21, 0, 0);
    }

    private static void tooShort() {
        Edge e = lay(oneThing("studio, studios: PLACE: a SHEET of fewer than four"), 0, INTS, 3, 0, 1);
        lay(e, 1, INTS);
        lay(e, 2, INTS, 3, 0, 0, 100);
        for (int sheet = 0; sheet < 2; sheet++) {
            e.finds(Check.PLACE, "studio", 0, sheet, 0, 1, 0, 0, 0).finds(Check.PLACE, "studios", 0, sheet, 0, 1, 0, 0);
        }
        e.taken(0, "studio", 0, 2, 0, 1, 0, 0, 0).taken(0, "studios", 0, 2, 0, 1, 0, 0).finds(Check.PLACE, "studios", 0, 2, 0, 2, 0, 0);
    }

    private static final int[] ITEM_LEAST = {-1000, -1000, -1000, 1};
    private static final int[] ITEM_MOST = {1000, 1000, 1000, 1000};
    private static final String[] ITEM_NAMES = {"u", "v", "w", "d"};

    /** There is no MARK, so that each STUDIO that is one has a MISFIT of 0. */
    private static void itemsOfAStudio() {
        for (int item = 0; item < 4; item++) {
            Edge e = edge("studio, studios: then BAD: an ITEM: " + ITEM_NAMES[item]).given("thing", 0, 0, 100);
            lay(e, 0, INTS, 0, 0, 0, 100);
            int[] fine = {ITEM_LEAST[item], ITEM_MOST[item]};
            for (int v : fine) {
                e.given("set", 0, item, v).taken(0, "studio", 0, 0, 0, 1, 0, 0, 0).taken(1, "studios", 0, 0, 0, 1, 0, 1);
            }
            int[] off = {ITEM_LEAST[item] - 1, ITEM_MOST[item] + 1, MIN, MAX};
            for (int v : off) {
                e.given("set", 0, item, v).bad("studio", 0, 0, 0, 1, 0, 0, 0).bad("studios", 0, 0, 0, 1, 0, 1);
            }
        }
    }

    /** Three STUDIOS behind one ITEM, and one behind them: what is off ahead of the first and behind the last is not asked. */
    private static void itemsOfSomeStudio() {
        int[] items = {5000, 3, 0, 0, 100, 10, 0, 0, 100, 40, 0, 0, 100, 5000};
        Edge e = lay(oneThing("studio, studios: BAD: an ITEM of some STUDIO"), 0, INTS, items);
        e.taken(0, "studio", 0, 0, 1, 3, 0, 0, 0).taken(37, "studio", 0, 0, 1, 3, 2, 0, 0).taken(0, "studios", 0, 0, 1, 3, 0, 0);
        for (int at = 1; at < 13; at++) {
            e.given("set", 0, at, 1001);
            for (int k = 0; k < 3; k++) {
                e.bad("studio", 0, 0, 1, 3, k, 0, k % 2);
            }
            for (int what = 0; what < 3; what++) {
                e.bad("studios", 0, 0, 1, 3, 0, what);
            }
            if (at > 4) {
                e.taken(0, "studio", 0, 0, 1, 1, 0, 0, 0);
            }
            e.given("set", 0, at, items[at]);
        }
    }

    private static void itemsOfOtherLanes() {
        Edge e = lay(oneThing("A STUDIO: four ITEMS of a SHEET, of any LANE: bytes"), 0, 0, 10, -128, -128, 127);
        // at -(-10) 127 by 228, at -(128) 127 by 228
        e.taken(2 + 71, "studio", 0, 0, 0, 1, 0, 0, 0).given("set", 0, 3, 128).bad("studio", 0, 0, 0, 1, 0, 0, 0);
        Edge s = lay(oneThing("A STUDIO: four ITEMS of a SHEET, of any LANE: shorts"), 0, 1, 10, 0, 0, 1000);
        s.taken(97, "studio", 0, 0, 0, 1, 0, 0, 0).given("set", 0, 3, 1001).bad("studio", 0, 0, 0, 1, 0, 0, 0);
    }

    /** Both an ITEM and a place are off, both the SHEET is missing and a place is off, both it is missing and a number is off. */
    private static void badAheadOfFindings() {
        threeStudios("BAD, then FINDINGS: studio, studios")
            .bad("studio", 8, 1, 0, 1, 0, 0, 0).bad("studio", 0, 1, 0, 0, 0, 0, 0).bad("studio", 0, 1, 0, 1, 1, 0, 0)
            .bad("studio", 0, 1, 0, 1, 0, 21, 0).bad("studio", 0, 1, 0, 1, 0, 0, 2).bad("studio", 8, 0, 9, 1, 0, 0, 0)
            .bad("studio", 0, 0, 9, 21, 0, 0, 0).bad("studio", 0, 0, 9, 1, 1, 0, 0).bad("studio", 0, 0, 9, 1, 0, 21, 0)
            .bad("studios", 8, 1, 0, 1, 0, 0).bad("studios", 0, 1, 0, 21, 0, 0).bad("studios", 0, 1, 0, 1, 21, 0)
            .bad("studios", 0, 1, 0, 1, 0, 3).bad("studios", 0, 0, 9, 1, 0, 3);
    }

    private static void badBehindFindings() {
        Edge e = lay(oneThing("NULL; PLACE; then BAD: an ITEM"), 0, INTS, 3, 0, 0, 0, 3, 0, 0, 100);
        e.finds(Check.PLACE, "studio", 0, 0, 0, 3, 0, 0, 0).bad("studio", 0, 0, 0, 2, 1, 0, 0).taken(0, "studio", 0, 0, 4, 1, 0, 0, 0);
        e.finds(Check.PLACE, "studios", 0, 0, 0, 3, 0, 0).bad("studios", 0, 0, 0, 2, 0, 0).taken(0, "studios", 0, 0, 4, 1, 0, 0);
    }

    private static void notAtAll() {
        String sentence = "It puts a THING NOT at all, if z is not above w";
        Edge e = lay(oneThing(sentence), 0, INTS, 3, 0, 100, 1, 3, 0, 99, 1, 3, 0, 101, 1, 3, 0, 1000, 1);
        e.taken(1000, "studio", 0, 0, 0, 4, 0, 20, 0).taken(0, "studio", 0, 0, 0, 4, 0, 20, 1);
        e.taken(0, "studio", 0, 0, 0, 4, 1, 0, 0).taken(1, "studio", 0, 0, 0, 4, 1, 0, 1);
        e.taken(1000, "studio", 0, 0, 0, 4, 2, 20, 0).taken(0, "studio", 0, 0, 0, 4, 2, 20, 1);
        e.taken(1000, "studio", 0, 0, 0, 4, 3, 20, 0).taken(0, "studio", 0, 0, 0, 4, 3, 20, 1);
        e.taken(1, "studios", 0, 0, 0, 4, 0, 0).taken(1, "studios", 0, 0, 0, 4, 20, 1).taken(0, "studios", 0, 0, 0, 4, 0, 2);
        e.taken(0, "studios", 0, 0, 0, 1, 20, 1).taken(1, "studios", 0, 0, 0, 1, 20, 2);
        // at a z of 1000 no w is above it, at 1001 all are below
        e.given("move", 0, 0, 0, 1000).taken(1000, "studio", 0, 0, 0, 4, 3, 0, 0);
        e.given("move", 0, 0, 0, 1001).taken(0, "studio", 0, 0, 0, 4, 3, 0, 0);
        // where there is no MARK nothing is NOT
        e.given("move", 0, 0, 0, 1).given("rub", 0, 0).taken(0, "studio", 0, 0, 0, 4, 0, 0, 0).taken(4, "studios", 0, 0, 0, 4, 0, 1);
    }

    /** From w -1000 a THING at a z of 1 is 1001 ahead. */
    private static void fromBehind() {
        Edge e = edge("A STUDIO: w below 1 may be, from -1000 on").given("thing", 0, 0, 1).given("mark", 0, 0, 0, 0);
        lay(e, 0, INTS, 1000, -1000, -1000, 1000, 1000, 0, 0, 1, 1000, 0, -1, 1, 1000, 0, 1, 1);
        e.taken(500 + 500, "studio", 0, 0, 0, 4, 0, 0, 0).given("mark", 0, 0, 999, -999).taken(0, "studio", 0, 0, 0, 4, 0, 0, 0);
        e.given("mark", 0, 0, 1000, 0).taken(0, "studio", 0, 0, 0, 4, 1, 0, 0).given("mark", 0, 0, 500, 0).taken(0, "studio", 0, 0, 0, 4, 2, 0, 0);
        e.taken(1000, "studio", 0, 0, 0, 4, 3, 0, 0).given("set", 0, 2, -1001).bad("studio", 0, 0, 0, 4, 1, 0, 0);
    }

    private static void fiveHundredAtMost() {
        Edge e = lay(oneThing("MISFIT: how far, added, each 500 at most"), 0, INTS, 0, 0, 0, 1);
        int[][] marks = {{499, 0, 499}, {500, 0, 500}, {501, 0, 500}, {1000, 0, 500}, {-499, 0, 499}, {-500, 0, 500}, {-501, 0, 500},
            {0, 499, 499}, {0, 500, 500}, {0, 501, 500}, {0, -499, 499}, {0, -501, 500}, {0, -1000, 500},
            {499, 499, 998}, {500, 500, 1000}, {501, 501, 1000}, {499, 501, 999}, {501, -499, 999}};
        for (int[] m : marks) {
            e.given("mark", 0, 0, m[0], m[1]).taken(m[2], "studio", 0, 0, 0, 1, 0, 0, 0);
        }
    }

    private static void allMarks() {
        Edge e = edge("MISFIT: over all MARKS: 24 of them");
        for (int i = 0; i < 24; i++) {
            e.given("thing", 0, 0, 100).given("mark", 0, i, 1000, -1000);
        }
        lay(e, 0, INTS, 0, 0, 0, 100, 0, 0, 100, 100);
        e.taken(24000, "studio", 0, 0, 0, 2, 0, 0, 0).taken(24000, "studio", 0, 0, 0, 2, 1, 0, 0);
        e.taken(24, "studios", 0, 0, 0, 2, 20, 2).taken(0, "studios", 0, 0, 0, 2, 20, 1).taken(0, "studios", 0, 0, 0, 2, 20, 0);
        e.given("mark", 0, 23, 0, 0).taken(23000, "studio", 0, 0, 0, 2, 0, 0, 0).taken(23, "studios", 0, 0, 0, 2, 0, 2);
    }

    private static void marksOfThingsThatAreThere() {
        Edge e = lay(oneThing("MARKS of THINGS that are there"), 0, INTS, 3, 0, 0, 100);
        e.given("mark", 0, 1, 900, 900).taken(0, "studio", 0, 0, 0, 1, 0, 0, 0).taken(1, "studio", 0, 0, 0, 1, 0, 0, 1);
        e.taken(0, "studios", 0, 0, 0, 1, 0, 2).taken(1, "studios", 0, 0, 0, 1, 0, 1);
        e.given("thing", 0, 0, 100).taken(1000, "studio", 0, 0, 0, 1, 0, 0, 0).taken(0, "studio", 0, 0, 0, 1, 0, 0, 1);
        e.taken(1, "studios", 0, 0, 0, 1, 0, 2).taken(0, "studios", 0, 0, 0, 1, 0, 1);
        e.given("rub", 0, 1).taken(0, "studio", 0, 0, 0, 1, 0, 0, 0).taken(1, "studio", 0, 0, 0, 1, 0, 0, 1);
        e.given("rub", 0, 0).taken(0, "studio", 0, 0, 0, 1, 0, 0, 0).taken(1, "studio", 0, 0, 0, 1, 0, 0, 1);
        e.taken(0, "studios", 0, 0, 0, 1, 0, 0).taken(1, "studios", 0, 0, 0, 1, 0, 1).taken(0, "studios", 0, 0, 0, 1, 0, 2);
    }

    private static void madeByADoubt() {
        Edge e = lay(oneThing("It MADE it by a doubt e, if each MARK is e or less from X, and from Y"), 0, INTS, 0, 0, 0, 1);
        int[][] marks = {{1, 0, 1}, {-1, 0, 1}, {0, 1, 1}, {0, -1, 1}, {19, 3, 19}, {-7, 19, 19}, {20, 20, 20}, {-20, -20, 20}};
        for (int[] m : marks) {
            e.given("mark", 0, 0, m[0], m[1]);
            e.taken(1, "studio", 0, 0, 0, 1, 0, m[2], 1).taken(0, "studio", 0, 0, 0, 1, 0, m[2] - 1, 1);
            e.taken(1, "studios", 0, 0, 0, 1, m[2], 1).taken(0, "studios", 0, 0, 0, 1, m[2] - 1, 1);
            e.taken(0, "studios", 0, 0, 0, 1, m[2], 2).taken(1, "studios", 0, 0, 0, 1, m[2] - 1, 2);
        }
        int[][] off = {{21, 0}, {-21, 0}, {0, 21}, {0, -21}};
        for (int[] m : off) {
            e.given("mark", 0, 0, m[0], m[1]).taken(0, "studio", 0, 0, 0, 1, 0, 20, 1).taken(1, "studios", 0, 0, 0, 1, 20, 2);
        }
        e.given("mark", 0, 0, 0, 0).taken(1, "studio", 0, 0, 0, 1, 0, 0, 1);
    }

    private static void madeInXAndInY() {
        Edge e = lay(oneThing("It MADE it, if each MARK is near"), 0, INTS, 3, 0, 0, 100).given("thing", 0, 0, 100);
        e.given("mark", 0, 1, 3, 5).taken(0, "studio", 0, 0, 0, 1, 0, 4, 1).taken(1, "studio", 0, 0, 0, 1, 0, 5, 1);
        e.given("mark", 0, 1, 8, 0).taken(0, "studio", 0, 0, 0, 1, 0, 4, 1).taken(1, "studio", 0, 0, 0, 1, 0, 5, 1);
        e.given("mark", 0, 0, 12, 0).taken(0, "studio", 0, 0, 0, 1, 0, 8, 1).taken(1, "studio", 0, 0, 0, 1, 0, 9, 1);
    }

    /** By a z of 3 and a DEPTH of 1: X is - (x - u) by 3. */
    private static void putIsCut() {
        Edge e = edge("It puts a THING at X, Y, cut").given("thing", 0, 0, 3);
        lay(e, 0, INTS, 0, 0, 0, 1);
        int[][] places = {{2, 0}, {3, 1}, {5, 1}, {-2, 0}, {-3, -1}, {-5, -1}};
        for (int[] p : places) {
            e.given("set", 0, 0, p[0]).given("set", 0, 1, -p[0]).given("mark", 0, 0, p[1], -p[1]).taken(1, "studio", 0, 0, 0, 1, 0, 0, 1);
        }
    }

    private static void promise26TheFirstOfSeveral() {
        Edge e = lay(oneThing("studios: the least MISFIT, of several the first"), 0, INTS, 9, 0, 0, 100, 5, 0, 0, 100, 1, 0, 0, 100, 5, 0, 0, 100);
        e.taken(1, "studios", 0, 0, 0, 4, 0, 0).taken(0, "studios", 0, 0, 8, 2, 0, 0).taken(0, "studios", 0, 0, 0, 1, 0, 0);
        e.given("set", 0, 8, 2).taken(2, "studios", 0, 0, 0, 4, 0, 0);
        e.given("set", 0, 12, 3).taken(3, "studios", 0, 0, 0, 4, 0, 0).taken(2, "studios", 0, 0, 0, 3, 0, 0);
        e.given("set", 0, 0, 3).taken(0, "studios", 0, 0, 0, 4, 0, 0);
        e.given("rub", 0, 0).given("set", 0, 0, 900).taken(0, "studios", 0, 0, 0, 4, 0, 0);
    }

    private static void promise26HowManyMade() {
        threeStudios("studios: how many MADE it").taken(1, "studios", 0, 0, 0, 3, 0, 1).taken(1, "studios", 0, 0, 0, 3, 6, 1)
            .taken(2, "studios", 0, 0, 0, 3, 7, 1).taken(2, "studios", 0, 0, 0, 3, 20, 1)
            .given("set", 0, 8, 23).taken(3, "studios", 0, 0, 0, 3, 20, 1).taken(2, "studios", 0, 0, 0, 3, 19, 1)
            .given("mark", 0, 0, 1000, 1000).taken(0, "studios", 0, 0, 0, 3, 20, 1);
    }

    /** One STUDIO is near in x, another in y; then one that is near in both. */
    private static void promise26MarksOfNone() {
        Edge e = lay(oneThing("studios: MARKS that no STUDIO puts within e, in x and in y"), 0, INTS, 3, 30, 0, 100, 33, 0, 0, 100, 3, 21, 0, 100);
        e.taken(1, "studios", 0, 0, 0, 2, 20, 2).taken(1, "studios", 0, 0, 0, 3, 20, 2);
        e.given("set", 0, 9, 20).taken(0, "studios", 0, 0, 0, 3, 20, 2).taken(1, "studios", 0, 0, 0, 3, 19, 2);
        e.taken(1, "studios", 0, 0, 0, 2, 20, 2);
        e.given("thing", 0, 0, 200).given("mark", 0, 1, 1, 15).taken(0, "studios", 0, 0, 0, 3, 20, 2).taken(1, "studios", 0, 0, 0, 3, 0, 2);
    }
}
