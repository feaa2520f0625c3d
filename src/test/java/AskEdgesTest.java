/** The boundaries that the document names of KINDS, ASKS, counts and status(): sections 1 and 5, promises 29 to 34. */
public final class AskEdgesTest {
    private static final Check check = new Check("AskEdgesTest");
    private static final int MIN = Integer.MIN_VALUE, MAX = Integer.MAX_VALUE;
    private static final int FOCUS = 0, OPENING = 1, GRAIN = 4, WIDE = 5, HIGH = 6;
    private static final int SEEN = 1, SHARP = 2, LOST = 3;

    public static void main(String[] args) {
        promise29WhichThing();
        promise29SeenAcross();
        promise29SeenUp();
        promise29Sharp();
        promise29LostIsNotSharp();
        promise30WhichThing();
        promise30WhichKind();
        promise30NoSuchOne();
        promise31WhichThing();
        promise31What();
        promise31EachKind();
        promise31TraceIsEmptyAhead();
        promise31RefusedLeavesTheTrace();
        promise32WhichNumber();
        promise32OfTheLatestAsk();
        promise33What();
        promise33FromNoneToAll();
        promise33AsTheRoomIs();
        promise34NoneAtFirst();
        promise34OfTheLatest();
        promise34NotOfOthers();
        promise34NotOfRefused();
        check.end();
    }

    private static Edge edge(String sentence) {
        return new Edge(check, sentence);
    }

    /** By a lens of 80, an OPENING of 20: THINGS 0 SHARP by 0, 1 SEEN by 8, 2 LOST. */
    private static Edge threeKinds(String sentence) {
        return edge(sentence).given("room", FOCUS, 80).given("room", OPENING, 20)
            .given("thing", 200, 50, 400).given("thing", -90, -80, 150).given("thing", -300, -80, 150);
    }

    private static void promise29WhichThing() {
        Edge e = edge("kind: BAD: there is no such thing").bad("kind", 0).bad("kind", -1);
        e.given("thing", 0, 0, 100).taken(SEEN, "kind", 0).bad("kind", -1).bad("kind", 1).bad("kind", 23).bad("kind", MIN).bad("kind", MAX);
        for (int i = 1; i < 24; i++) {
            e.given("thing", 0, 0, 100);
        }
        e.taken(SEEN, "kind", 23).bad("kind", 24);
    }

    /** X is -x. */
    private static void promise29SeenAcross() {
        Edge e = edge("SEEN: X is from -WIDE to WIDE").given("thing", 0, 0, 100);
        int[] wides = {1, 160, 400};
        for (int wide : wides) {
            e.given("room", WIDE, wide);
            e.given("move", 0, wide, 0, 100).taken(SEEN, "kind", 0).given("move", 0, wide + 1, 0, 100).taken(LOST, "kind", 0);
            e.given("move", 0, -wide, 0, 100).taken(SEEN, "kind", 0).given("move", 0, -wide - 1, 0, 100).taken(LOST, "kind", 0);
        }
    }

    private static void promise29SeenUp() {
        Edge e = edge("SEEN: Y from -HIGH to HIGH").given("thing", 0, 0, 100);
        int[] highs = {1, 100, 400};
        for (int high : highs) {
            e.given("room", HIGH, high);
            e.given("move", 0, 0, high, 100).taken(SEEN, "kind", 0).given("move", 0, 0, high + 1, 100).taken(LOST, "kind", 0);
            e.given("move", 0, 0, -high, 100).taken(SEEN, "kind", 0).given("move", 0, 0, -high - 1, 100).taken(LOST, "kind", 0);
        }
        e.given("room", HIGH, 100).given("move", 0, 160, 100, 100).taken(SEEN, "kind", 0);
        e.given("move", 0, 161, 100, 100).taken(LOST, "kind", 0).given("move", 0, 160, 101, 100).taken(LOST, "kind", 0);
        e.given("move", 0, 161, 101, 100).taken(LOST, "kind", 0);
    }

    /** BLUR of the hole is OPENING and as much as E is by z: 20, 1 and so on. */
    private static void promise29Sharp() {
        edge("SHARP, a SEEN one: BLUR is GRAIN or less").given("thing", 0, 0, 100)
            .taken(20, "picture", 0, 8).given("room", GRAIN, 20).taken(SHARP, "kind", 0)
            .given("room", GRAIN, 19).taken(SEEN, "kind", 0).given("room", GRAIN, 21).taken(SHARP, "kind", 0)
            .given("room", OPENING, 25).given("room", GRAIN, 50).taken(50, "picture", 0, 8).taken(SHARP, "kind", 0)
            .given("room", GRAIN, 49).taken(SEEN, "kind", 0)
            .given("room", OPENING, 26).given("room", GRAIN, 50).taken(SEEN, "kind", 0);
        edge("SHARP, a SEEN one: BLUR is GRAIN or less: a GRAIN of 0").given("thing", 0, 0, 100).given("room", FOCUS, 50)
            .given("room", GRAIN, 0).taken(SHARP, "kind", 0)
            .given("room", 2, 109).taken(SHARP, "kind", 0).given("room", 2, 110).taken(1, "picture", 0, 8).taken(SEEN, "kind", 0)
            .given("room", GRAIN, 1).taken(SHARP, "kind", 0);
    }

    private static void promise29LostIsNotSharp() {
        edge("LOST, a THING: not SEEN, though BLUR is 0").given("thing", 160, 0, 100).given("room", FOCUS, 50)
            .taken(0, "picture", 0, 8).taken(SHARP, "kind", 0)
            .given("move", 0, 161, 0, 100).taken(0, "picture", 0, 8).taken(LOST, "kind", 0).finds(Check.KIND, "as", 0, SHARP);
    }

    private static void promise30WhichThing() {
        edge("as: BAD: there is no such thing").bad("as", 0, 0).bad("as", -1, 3)
            .given("thing", 0, 0, 70).taken(70, "as", 0, 0).bad("as", -1, 0).bad("as", 1, 0).bad("as", 23, 0).bad("as", MIN, 0).bad("as", MAX, 0)
            .bad("as", 1, LOST);
    }

    private static void promise30WhichKind() {
        threeKinds("as: BAD: a KIND (0 .. 3)")
            .taken(400, "as", 0, 0).bad("as", 0, -1).bad("as", 0, MIN)
            .taken(150, "as", 2, 3).bad("as", 2, 4).bad("as", 2, MAX).bad("as", 0, 4);
    }

    private static void promise30NoSuchOne() {
        threeKinds("as: KIND: it is no such one (each is a THING, SHARP ones are SEEN, too)")
            .taken(400, "as", 0, 0).taken(400, "as", 0, SEEN).taken(400, "as", 0, SHARP).finds(Check.KIND, "as", 0, LOST)
            .taken(150, "as", 1, 0).taken(150, "as", 1, SEEN).finds(Check.KIND, "as", 1, SHARP).finds(Check.KIND, "as", 1, LOST)
            .taken(150, "as", 2, 0).finds(Check.KIND, "as", 2, SEEN).finds(Check.KIND, "as", 2, SHARP).taken(150, "as", 2, LOST)
            // the BLUR of 8 by a GRAIN of 7, of 8
            .given("room", GRAIN, 7).finds(Check.KIND, "as", 1, SHARP).given("room", GRAIN, 8).taken(150, "as", 1, SHARP)
            .finds(Check.KIND, "as", 2, SHARP);
    }

    private static void promise31WhichThing() {
        edge("ask: BAD: there is no such thing").bad("ask", 0, 0).bad("ask", 0, 1)
            .given("thing", 0, 0, 100).given("ask", 0, 0).taken(120, "ask", 0, 0).bad("ask", -1, 0).bad("ask", 1, 0).bad("ask", 23, 1)
            .bad("ask", MIN, 0).bad("ask", MAX, 0);
    }

    private static void promise31What() {
        threeKinds("ask: BAD: An ASK (0, 1)").given("ask", 0, 1)
            .taken(800, "ask", 0, 0).bad("ask", 0, -1).bad("ask", 0, MIN)
            .taken(-2 + 100 + 800, "ask", 0, 1).bad("ask", 0, 2).bad("ask", 0, MAX);
    }

    private static void begun(Edge e, int... bodies) {
        for (int i = 0; i < bodies.length; i++) {
            e.then(bodies[i], "trace", i);
        }
        for (int i = bodies.length; i < 18; i++) {
            e.then(Check.NONE, "trace", i);
        }
        e.then(Check.NONE, "trace", -1);
    }

    /** Each BODY on either side of the KINDS: the SEEN one becomes SHARP, the SHARP one LOST, the LOST one SEEN. */
    private static void promise31EachKind() {
        Edge e = threeKinds("the BODY told for the KIND begins");
        begun(e.taken(2 * (400 + 0), "ask", 0, 0), 12, 11, 10);
        begun(e.taken(-2 + 100 + 800, "ask", 0, 1), 22, 21, 20, 12, 11, 10);
        begun(e.taken(150 + 8, "ask", 1, 0), 11, 10);
        begun(e.taken(3 + 100, "ask", 1, 1), 21, 20);
        begun(e.taken(150 - (8 + 1000), "ask", 2, 0), 13, 10, 23, 20);
        begun(e.taken(8 + 1000, "ask", 2, 1), 23, 20);
        e.given("room", GRAIN, 8);
        begun(e.taken(2 * (150 + 8), "ask", 1, 0), 12, 11, 10);
        begun(e.taken(3 + 100 + 316, "ask", 1, 1), 22, 21, 20, 12, 11, 10);
        e.given("room", WIDE, 200).given("room", GRAIN, 7);
        begun(e.taken(150 + 8, "ask", 2, 0), 11, 10);
        begun(e.taken(8 + 100, "ask", 2, 1), 21, 20);
        e.given("room", WIDE, 199);
        begun(e.taken(150 - 1008, "ask", 2, 0), 13, 10, 23, 20);
        e.given("room", HIGH, 12);
        begun(e.taken(800, "ask", 0, 0), 12, 11, 10);
        e.given("room", HIGH, 11);
        begun(e.taken(400 - (-2 + 1000), "ask", 0, 0), 13, 10, 23, 20);
        begun(e.taken(-2 + 1000, "ask", 0, 1), 23, 20);
    }

    private static void promise31TraceIsEmptyAhead() {
        Edge e = threeKinds("THE TRACE is empty ahead of it").given("ask", 0, 1);
        begun(e.taken(1008, "ask", 2, 1), 23, 20);
        begun(e.taken(898, "ask", 0, 1), 22, 21, 20, 12, 11, 10);
        begun(e.taken(158, "ask", 1, 0).then(898, "ask", 0, 1).then(158, "ask", 1, 0), 11, 10);
    }

    private static void promise31RefusedLeavesTheTrace() {
        Edge e = threeKinds("ask: BAD: THE TRACE is as it was").given("ask", 0, 1);
        begun(e.taken(22, "trace", 0).then(Check.BAD, "ask", 3, 0), 22, 21, 20, 12, 11, 10);
        e.bad("ask", 3, 0).bad("ask", -1, 0).bad("ask", 0, 2).bad("ask", 0, -1);
    }

    private static void promise32WhichNumber() {
        edge("trace: NONE: of a new object").taken(Check.NONE, "trace", 0).taken(Check.NONE, "trace", -1).taken(Check.NONE, "trace", 15);
        threeKinds("trace: NONE").taken(Check.NONE, "trace", 0).given("ask", 0, 1)
            .taken(22, "trace", 0).taken(Check.NONE, "trace", -1).taken(Check.NONE, "trace", MIN)
            .taken(21, "trace", 1).taken(20, "trace", 2).taken(12, "trace", 3).taken(11, "trace", 4)
            .taken(10, "trace", 5).taken(Check.NONE, "trace", 6).taken(Check.NONE, "trace", 15).taken(Check.NONE, "trace", 16)
            .taken(Check.NONE, "trace", MAX).taken(Check.NONE, "trace", -1000000);
    }

    private static void promise32OfTheLatestAsk() {
        threeKinds("trace: of the latest ASK alone").given("ask", 2, 0).given("kind", 0).given("as", 0, 2).given("as", 0, 3)
            .given("count", 3).given("draw", 0).given("move", 2, 0, 0, 400).given("bent")
            .taken(13, "trace", 0).taken(10, "trace", 1).taken(23, "trace", 2).taken(20, "trace", 3).taken(Check.NONE, "trace", 4);
    }

    private static void promise33What() {
        threeKinds("count: BAD: 0 to 7").given("sheet", 0, 0, 0).given("bend", 3, 3)
            .taken(1, "count", 0).bad("count", -1).bad("count", MIN)
            .taken(1, "count", 7).bad("count", 8).bad("count", MAX);
    }

    private static void counts(Edge e, int... counts) {
        for (int what = 0; what < 8; what++) {
            e.taken(counts[what], "count", what);
        }
    }

    private static void promise33FromNoneToAll() {
        Edge e = edge("count: none");
        counts(e, 0, 0, 0, 0, 0, 0, 0, 0);
        Edge all = edge("count: all there can be").given("room", FOCUS, 50);
        for (int i = 0; i < 8; i++) {
            all.given("sheet", i, i % 3, i % 2 * 80);
        }
        for (int i = 0; i < 24; i++) {
            all.given("thing", 0, 0, 100);
        }
        for (int i = 0; i < 8; i++) {
            all.given("draw", i);
        }
        for (int column = -8; column <= 8; column++) {
            all.given("bend", column, column == 0 ? 1 : -50);
        }
        counts(all, 8, 24, 24, 24, 0, 192, 8, 17);
        all.given("room", WIDE, 1).given("move", 3, 1000, 0, 1).given("rub", 5, 5).given("drop", 6).given("bend", 8, 0);
        counts(all, 7, 24, 23, 23, 1, 191, 8, 16);
    }

    private static void promise33AsTheRoomIs() {
        Edge e = threeKinds("count: 2 SEEN (SHARP, too), 3 SHARP, 4 LOST ones");
        counts(e, 0, 3, 2, 1, 1, 0, 0, 0);
        counts(e.given("room", GRAIN, 8), 0, 3, 2, 2, 1, 0, 0, 0);
        counts(e.given("room", WIDE, 200), 0, 3, 3, 3, 0, 0, 0, 0);
        counts(e.given("room", GRAIN, 7), 0, 3, 3, 1, 0, 0, 0, 0);
        counts(e.given("room", HIGH, 11), 0, 3, 0, 0, 3, 0, 0, 0);
        // one MARK, the last one taken off
        counts(e.given("mark", 4, 23, 0, 0), 0, 3, 0, 0, 3, 1, 1, 0);
        counts(e.given("rub", 4, 23), 0, 3, 0, 0, 3, 0, 0, 0);
    }

    private static void promise34NoneAtFirst() {
        LensTable t = new LensTable();
        check.due("status: 0: there was none", t.status(), 0);
        t.room(0, 50);
        t.thing(0, 0, 1);
        t.set(8, 0, 0);
        check.due("status: 0: there was none that was not BAD", t.status(), 0);
    }

    /** Each FINDING, then a call of each name that has none. */
    private static void promise34OfTheLatest() {
        Edge e = threeKinds("status: of the latest call: the number of its FINDING").given("sheet", 0, 2, 4).given("set", 0, 3, 100)
            .given("sheet", 1, 1, 4);
        e.finds(Check.NULL, "drop", 5).then(1, "status").finds(Check.PLACE, "set", 0, 4, 0).then(2, "status");
        e.finds(Check.KIND, "as", 2, 1).then(3, "status").finds(Check.SIZE, "sheet", 5, 0, -1).then(4, "status");
        e.finds(Check.STORE, "copy", 0, 0, 1, 0, 1).then(5, "status").then(5, "status");
        Edge late = e.given("copy", 0, 0, 1, 0, 1);
        late.taken(1, "sheet", 2, 2, 1).then(0, "status").taken(9, "set", 0, 0, 9).then(0, "status");
        late.taken(0, "copy", 0, 0, 0, 0, 0).then(0, "status").taken(4, "drop", 1).then(0, "status");
        late.taken(150, "as", 2, 0).then(0, "status").taken(0, "studio", 0, 0, 0, 1, 0, 0, 0).then(0, "status");
        late.taken(1, "studios", 0, 0, 0, 1, 0, 1).then(0, "status");
        late.finds(Check.NULL, "studio", 0, 5, 0, 1, 0, 0, 0).then(1, "status").then(1, "studios", 0, 0, 0, 1, 0, 1).then(0, "status");
    }

    private static void promise34NotOfOthers() {
        threeKinds("status: not of calls without a SHEET").given("mark", 0, 0, 1, 1).given("mark", 1, 0, 1, 1).given("sheet", 7, 0, -1)
            .taken(80, "room", 0, 80).then(4, "status").taken(0, "bend", 0, 1).then(4, "status").taken(80, "told", 0).then(4, "status")
            .taken(3, "thing", 0, 0, 1).then(4, "status").taken(1, "move", 0, 0, 0, 1).then(4, "status").taken(400, "picture", 0, 2)
            .then(4, "status").taken(0, "focused", 0, 1).then(4, "status").taken(0, "mark", 0, 0, 2, 2).then(4, "status")
            .taken(1, "rub", 0, 0).then(4, "status").taken(2, "draw", 0).then(4, "status").taken(1, "marked", 0, 0, 0).then(4, "status")
            .taken(1, "joined", 0, 1, 0).then(4, "status").taken(0, "round", 2, 0).then(4, "status").taken(1, "around", 2, 0, 0)
            .then(4, "status").taken(1, "stand", 0, 1, 1, 1, 1).then(4, "status").taken(Check.NONE, "far", 0, 0, 0).then(4, "status")
            .taken(Check.NONE, "high", 0, 0, 0).then(4, "status").taken(Check.NONE, "span", 0, 0, 0, 0).then(4, "status")
            .taken(0, "spot", 0, 0, 1, 0).then(4, "status").taken(0, "days", 9, 0, 1, -1000000).then(4, "status").taken(2, "kind", 0)
            .then(4, "status").taken(800, "ask", 0, 0).then(4, "status").taken(Check.NONE, "trace", 0).then(4, "status")
            .taken(3, "count", 1).then(4, "status").taken(2, "bent").then(4, "status");
    }

    private static void promise34NotOfRefused() {
        Edge e = threeKinds("status: that was not BAD, STATE, FULL").given("sheet", 0, 2, 4).given("as", 2, 1);
        e.bad("sheet", 8, 0, 0).bad("sheet", 0, 0, 81).bad("set", 8, 0, 0).bad("copy", 8, 0, 0, 0, 0).bad("drop", 8).bad("as", 9, 0);
        e.bad("studio", 8, 0, 0, 1, 0, 0, 0).bad("studios", 8, 0, 0, 1, 0, 0).bad("studio", 0, 0, 0, 1, 0, 0, 0);
        e.bad("studios", 0, 0, 0, 1, 0, 0);
        for (int i = 3; i < 24; i++) {
            e.given("thing", 0, 0, 1);
        }
        e.full("thing", 0, 0, 1);
    }
}
