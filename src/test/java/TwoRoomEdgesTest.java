/** The boundaries that the document names of TWO ROOMS and of SPAN: section 3, promises 21 to 24. */
public final class TwoRoomEdgesTest {
    private static final Check check = new Check("TwoRoomEdgesTest");
    private static final int MIN = Integer.MIN_VALUE, MAX = Integer.MAX_VALUE;

    public static void main(String[] args) {
        promise21WhichRoom();
        promise21WhereAside();
        promise21WhereUp();
        promise21WhereAhead();
        promise21Depth();
        promise22WhereItIsSeen();
        promise22What();
        promise22LowerIsZero();
        promise22LowerBelowZero();
        promise22NotAboveTheGreater();
        promise22GreatestNumbers();
        promise23WhereItIsSeen();
        promise23None();
        promise23LooksLikeARefusal();
        promise23Cut();
        promise24Doubt();
        promise24What();
        promise24WhereItIsSeen();
        promise24DoubtBeyondThePlaces();
        promise24OneOfNineIsNone();
        check.end();
    }

    private static Edge edge(String sentence) {
        return new Edge(check, sentence);
    }

    /** UPPER is 60 times 100 times 100, LOWER 100 times (q - p). */
    private static Edge sixtyApart(String sentence) {
        return edge(sentence).given("stand", 0, 0, 0, 0, 100).given("stand", 1, 60, 0, 0, 100);
    }

    /** The same the other way round: LOWER below 0 is turned. */
    private static Edge sixtyTurned(String sentence) {
        return edge(sentence).given("stand", 0, 60, 0, 0, 100).given("stand", 1, 0, 0, 0, 100);
    }

    /** ROOM 0 is twice as deep: UPPER is 1200000, LOWER 200 q - 100 p, which is above 0 by a p of 1000, too. */
    private static Edge twiceAsDeep(String sentence) {
        return edge(sentence).given("stand", 0, 0, 0, 0, 200).given("stand", 1, 60, 0, 0, 100);
    }

    /** Rooms of DEPTH 1, at 0, 0, w0 and at u1, 0, w1. */
    private static Edge shallow(String sentence, int w0, int u1, int w1) {
        return edge(sentence).given("stand", 0, 0, 0, w0, 1).given("stand", 1, u1, 0, w1, 1);
    }

    private static void promise21WhichRoom() {
        sixtyApart("stand: BAD: ROOM 0, 1")
            .taken(1, "stand", 0, 10, 0, 0, 100).then(500000, "far", -20, 40, 0)
            .taken(1, "stand", 1, 10, 0, 0, 100).then(100000, "far", -20, 40, 0)
            .bad("stand", -1, 10, 0, 0, 100).bad("stand", 2, 10, 0, 0, 100)
            .bad("stand", MIN, 10, 0, 0, 100).bad("stand", MAX, 10, 0, 0, 100);
    }

    private static void promise21WhereAside() {
        sixtyApart("stand: BAD: u -1000 to 1000")
            .taken(1, "stand", 0, -1000, 0, 0, 100).then(10600000, "far", -20, 40, 0)
            .taken(1, "stand", 0, 1000, 0, 0, 100).then(9400000, "far", 40, -20, 0)
            .taken(1, "stand", 1, 1000, 0, 0, 100).then(10000000, "far", -20, 40, 0)
            .taken(1, "stand", 1, -1000, 0, 0, 100).then(10000000, "far", 40, -20, 0)
            .bad("stand", 0, -1001, 0, 0, 100).bad("stand", 0, 1001, 0, 0, 100).bad("stand", 1, -1001, 0, 0, 100)
            .bad("stand", 1, 1001, 0, 0, 100).bad("stand", 0, MIN, 0, 0, 100).bad("stand", 1, MAX, 0, 0, 100);
    }

    private static void promise21WhereUp() {
        sixtyApart("stand: BAD: v -1000 to 1000")
            .taken(1, "stand", 0, 0, -1000, 0, 100).then(-1000, "high", -20, 40, 0)
            .taken(1, "stand", 0, 0, 1000, 0, 100).then(1000, "high", -20, 40, 0)
            .taken(1, "stand", 1, 60, -1000, 0, 100).then(0, "high", -20, 40, 0)
            .taken(1, "stand", 1, 60, 1000, 0, 100).then(0, "high", -20, 40, 0)
            .bad("stand", 0, 0, -1001, 0, 100).bad("stand", 0, 0, 1001, 0, 100).bad("stand", 1, 0, -1001, 0, 100)
            .bad("stand", 1, 0, 1001, 0, 100).bad("stand", 0, 0, MIN, 0, 100).bad("stand", 1, 0, MAX, 0, 100);
    }

    private static void promise21WhereAhead() {
        sixtyApart("stand: BAD: w 0 to 1000")
            .taken(1, "stand", 0, 0, 0, 0, 100).then(600000, "far", -20, 1, 0)
            .taken(1, "stand", 0, 0, 0, 1000, 100).then(600000 + 2000000, "far", -20, 1, 0)
            .taken(1, "stand", 1, 60, 0, 0, 100).then(600000, "far", -5, 40, 0)
            .taken(1, "stand", 1, 60, 0, 1000, 100).then(600000 + 4000000, "far", -5, 40, 0)
            .bad("stand", 0, 0, 0, -1, 100).bad("stand", 0, 0, 0, 1001, 100).bad("stand", 1, 60, 0, -1, 100)
            .bad("stand", 1, 60, 0, 1001, 100).bad("stand", 0, 0, 0, -1000, 100).bad("stand", 1, 60, 0, MIN, 100)
            .bad("stand", 0, 0, 0, MAX, 100);
    }

    private static void promise21Depth() {
        sixtyApart("stand: BAD: d 1 to 1000")
            .taken(1, "stand", 0, 0, 0, 0, 1).then(6000, "far", -20, 40, 0).then(2040, "far", -20, 40, 1)
            .taken(1, "stand", 0, 0, 0, 0, 1000).then(6000000, "far", -20, 40, 0).then(42000, "far", -20, 40, 1)
            .taken(1, "stand", 1, 60, 0, 0, 1).then(6000, "far", -20, 40, 0).then(4020, "far", -20, 40, 1)
            .taken(1, "stand", 1, 60, 0, 0, 1000).then(6000000, "far", -20, 40, 0).then(24000, "far", -20, 40, 1)
            .bad("stand", 0, 0, 0, 0, 0).bad("stand", 0, 0, 0, 0, 1001).bad("stand", 1, 60, 0, 0, 0)
            .bad("stand", 1, 60, 0, 0, 1001).bad("stand", 0, 0, 0, 0, -1).bad("stand", 1, 60, 0, 0, MIN)
            .bad("stand", 0, 0, 0, 0, MAX);
    }

    private static void promise22WhereItIsSeen() {
        twiceAsDeep("far: BAD: p, q (-1000 to 1000)")
            .taken(20000, "far", -1000, -400, 1).bad("far", -1001, -400, 1).bad("far", MIN, -400, 1)
            .taken(100000, "far", 1000, 1000, 1).bad("far", 1001, 1000, 1).bad("far", MAX, 1000, 1)
            .taken(300000, "far", -1000, 1000, 1).bad("far", -1000, 1001, 1).bad("far", -1000, MAX, 1);
        sixtyTurned("far: BAD: q (-1000 to 1000)")
            .taken(200000, "far", 1000, -1000, 1).bad("far", 1000, -1001, 1).bad("far", 1000, MIN, 1);
    }

    private static void promise22What() {
        sixtyApart("far: BAD: what 0, 1")
            .taken(600000, "far", -20, 40, 0).bad("far", -20, 40, -1).bad("far", -20, 40, MIN)
            .taken(6000, "far", -20, 40, 1).bad("far", -20, 40, 2).bad("far", -20, 40, MAX)
            .bad("far", 0, 0, 2).bad("far", 0, 0, -1);
    }

    private static void promise22LowerIsZero() {
        shallow("far: NONE, if LOWER is 0", 0, 1, 0)
            .taken(Check.NONE, "far", 0, 0, 0).taken(Check.NONE, "far", 0, 0, 1).taken(Check.NONE, "far", 7, 7, 0)
            .taken(1, "far", 0, 1, 0).taken(1, "far", 0, 1, 1).taken(1, "far", 7, 8, 0);
        twiceAsDeep("far: NONE, if LOWER is 0: by two DEPTHS")
            .taken(Check.NONE, "far", 2, 1, 0).taken(Check.NONE, "far", 1000, 500, 1).taken(Check.NONE, "far", -1000, -500, 1)
            .taken(100, "far", 1, 1, 1).taken(100, "far", 999, 500, 1).taken(200, "far", -1000, -499, 1);
    }

    private static void promise22LowerBelowZero() {
        shallow("far: if LOWER is below 0 both are turned", 0, -1, 0)
            .taken(1, "far", 1, 0, 0).taken(1, "far", 1, 0, 1).taken(Check.NONE, "far", 0, 0, 0)
            .taken(Check.NONE, "far", 0, 1, 0).taken(1000, "far", 1000, 0, 1);
        shallow("far: LOWER above 0 is not turned", 0, 1, 0)
            .taken(1, "far", 0, 1, 0).taken(1, "far", 0, 1, 1).taken(Check.NONE, "far", 1, 0, 0);
    }

    /** With DEPTHS of 1 UPPER is u1 - p w0 + q w1, LOWER is q - p. */
    private static void promise22NotAboveTheGreater() {
        String sentence = "far: NONE, if UPPER is not above LOWER times the greater of w0 and w1";
        shallow(sentence, 0, 0, 0).taken(Check.NONE, "far", 0, 1, 0);
        shallow(sentence, 0, 1, 0).taken(1, "far", 0, 1, 0).taken(1, "far", 0, 1, 1);
        shallow(sentence, 10, 1, 9).taken(Check.NONE, "far", 0, 1, 0).taken(11, "far", -1, 0, 0);
        shallow(sentence, 10, 2, 9).taken(11, "far", 0, 1, 0).taken(Check.NONE, "far", 0, 2, 0);
        shallow(sentence, 10, 1, 11).taken(Check.NONE, "far", -1, 0, 0).taken(12, "far", 0, 1, 0);
        shallow(sentence, 10, 2, 11).taken(12, "far", -1, 0, 0).taken(Check.NONE, "far", -2, 0, 0);
        shallow(sentence, 1000, 0, 1000).taken(Check.NONE, "far", 0, 1, 0).taken(Check.NONE, "far", -1, 0, 1);
        shallow(sentence, 1000, 1, 1000).taken(1001, "far", 0, 1, 0).taken(1001, "far", -1, 0, 0);
        shallow(sentence, 10, -1, 10).taken(11, "far", 1, 0, 0).taken(Check.NONE, "far", 0, 1, 0);
    }

    private static void promise22GreatestNumbers() {
        edge("FAR of the greatest numbers, as longs").given("stand", 0, -1000, 1000, 1000, 1000).given("stand", 1, 1000, 1000, 1000, 1000)
            .taken(4000000000L, "far", -1000, 1000, 0).taken(2000000, "far", -1000, 1000, 1)
            .taken(2001000000L, "far", 0, 1, 0).taken(1000, "far", 0, 1, 1)
            .taken(0, "high", -1000, 1000, 1000).taken(2000, "high", -1000, 1000, -1000)
            .taken(2001000, "high", 0, 1, -1000).taken(-1999000, "high", 0, 1, 1000)
            .taken(2000, "span", -1000, 1000, 0, 0).taken(1980, "span", -1000, 1000, 20, 0).taken(2020, "span", -1000, 1000, 20, 1);
    }

    private static void promise23WhereItIsSeen() {
        sixtyApart("high: BAD: r (-1000 to 1000)")
            .taken(1000, "high", -20, 40, -1000).bad("high", -20, 40, -1001).bad("high", -20, 40, MIN)
            .taken(-1000, "high", -20, 40, 1000).bad("high", -20, 40, 1001).bad("high", -20, 40, MAX)
            .bad("high", 0, 0, 1001).bad("high", 0, 0, -1001);
        // 1000 UPPER by 200 LOWER
        twiceAsDeep("high: BAD: p, q (-1000 to 1000)")
            .taken(-300, "high", -1000, -400, 1000).bad("high", -1001, -400, 1000).bad("high", MIN, -400, 1000)
            .taken(-60, "high", 1000, 1000, 1000).bad("high", 1001, 1000, 1000).bad("high", MAX, 1000, 1000)
            .taken(-20, "high", -1000, 1000, 1000).bad("high", -1000, 1001, 1000).bad("high", -1000, MAX, 1000);
        sixtyTurned("high: BAD: q (-1000 to 1000)")
            .taken(-30, "high", 1000, -1000, 1000).bad("high", 1000, -1001, 1000).bad("high", 1000, MIN, 1000);
    }

    private static void promise23None() {
        shallow("high: NONE: FAR is NONE", 0, 1, 0).taken(Check.NONE, "high", 0, 0, 5).taken(-5, "high", 0, 1, 5)
            .taken(Check.NONE, "high", 1, 0, 5);
        shallow("high: NONE: FAR is NONE", 10, 1, 11).taken(Check.NONE, "high", -1, 0, 5).taken(-10, "high", 0, 1, 5);
    }

    /** HIGH is v0 - 1000 r. */
    private static void promise23LooksLikeARefusal() {
        shallow("high: how high it is, though it looks like NONE, BAD", 0, 1000, 0)
            .taken(-1000000, "high", 0, 1, 1000).taken(-999000, "high", 0, 1, 999)
            .given("stand", 0, 0, -1, 0, 1).taken(-1000001, "high", 0, 1, 1000)
            .given("stand", 0, 0, -11, 0, 1).taken(-1000011, "high", 0, 1, 1000);
    }

    /** HIGH is - r 6 by 100, from 0, then from 1, then from -1. */
    private static void promise23Cut() {
        twiceAsDeep("HIGH, cut").taken(0, "high", 1000, 1000, 16).taken(-1, "high", 1000, 1000, 17)
            .taken(0, "high", 1000, 1000, -16).taken(1, "high", 1000, 1000, -17).taken(0, "high", 1000, 1000, 0)
            .given("stand", 0, 0, 1, 0, 200).taken(0, "high", 1000, 1000, 16).taken(0, "high", 1000, 1000, 17)
            .taken(0, "high", 1000, 1000, 33).taken(-1, "high", 1000, 1000, 34).taken(1, "high", 1000, 1000, -16)
            .given("stand", 0, 0, -1, 0, 200).taken(0, "high", 1000, 1000, -33).taken(1, "high", 1000, 1000, -34)
            .taken(-1, "high", 1000, 1000, 16);
    }

    private static void promise24Doubt() {
        sixtyApart("span: BAD: a doubt e (0 to 20)")
            .taken(100, "span", -20, 40, 0, 0).taken(100, "span", -20, 40, 0, 1).bad("span", -20, 40, -1, 0).bad("span", -20, 40, MIN, 0)
            .taken(60, "span", -20, 40, 20, 0).taken(300, "span", -20, 40, 20, 1).bad("span", -20, 40, 21, 0).bad("span", -20, 40, MAX, 0)
            .bad("span", 0, 0, 21, 0).bad("span", 0, 0, -1, 0);
    }

    private static void promise24What() {
        sixtyApart("span: BAD: what 0, 1")
            .taken(96, "span", -20, 40, 1, 0).bad("span", -20, 40, 1, -1).bad("span", -20, 40, 1, MIN)
            .taken(103, "span", -20, 40, 1, 1).bad("span", -20, 40, 1, 2).bad("span", -20, 40, 1, MAX).bad("span", 0, 0, 1, 2);
    }

    private static void promise24WhereItIsSeen() {
        twiceAsDeep("span: BAD: p, q -1000 to 1000")
            .taken(60, "span", -1000, -400, 0, 0).bad("span", -1001, -400, 0, 0).bad("span", MIN, -400, 0, 0)
            .taken(12, "span", 1000, 1000, 0, 0).bad("span", 1001, 1000, 0, 0).bad("span", MAX, 1000, 0, 0)
            .taken(4, "span", -1000, 1000, 0, 0).bad("span", -1000, 1001, 0, 0).bad("span", -1000, MAX, 0, 0);
        sixtyTurned("span: BAD: q -1000 to 1000")
            .taken(3, "span", 1000, -1000, 0, 0).bad("span", 1000, -1001, 0, 0).bad("span", 1000, MIN, 0, 0);
    }

    private static void promise24DoubtBeyondThePlaces() {
        sixtyApart("SPAN: FAR of p - e, q + e, though they are beyond -1000, 1000")
            .taken(2, "span", -1000, 1000, 20, 0).taken(3, "span", -1000, 1000, 20, 1);
        twiceAsDeep("SPAN: FAR of p + e, q + e, though they are beyond 1000")
            .taken(11, "span", 1000, 1000, 20, 0).taken(12, "span", 1000, 1000, 20, 1);
        sixtyTurned("SPAN: FAR of p + e, q - e, though they are beyond 1000, -1000")
            .taken(2, "span", 1000, -1000, 20, 0).taken(3, "span", 1000, -1000, 20, 1);
    }

    private static void promise24OneOfNineIsNone() {
        String sentence = "span: NONE: one of them is NONE";
        // LOWER of p + e, q - e is 0 by a q that is 2 e more than p
        sixtyApart(sentence).taken(Check.NONE, "span", 5, 5, 0, 0).taken(6000, "span", 5, 6, 0, 0)
            .taken(Check.NONE, "span", 0, 2, 1, 0).taken(Check.NONE, "span", 0, 2, 1, 1)
            .taken(1200, "span", 0, 3, 1, 0).taken(6000, "span", 0, 3, 1, 1)
            .taken(Check.NONE, "span", 0, 40, 20, 0).taken(74, "span", 0, 41, 20, 0).taken(6000, "span", 0, 41, 20, 1);
        // LOWER of p - e, q + e is 0
        sixtyTurned(sentence).taken(Check.NONE, "span", 2, 0, 1, 0).taken(1200, "span", 3, 0, 1, 0).taken(6000, "span", 3, 0, 1, 1);
        // UPPER is above LOWER only while p is above -10: p - e is the first that is not
        shallow(sentence, 0, 10, 1).taken(1, "span", -5, 100, 4, 0).taken(1, "span", -5, 100, 4, 1)
            .taken(Check.NONE, "span", -5, 100, 5, 0).taken(Check.NONE, "span", -5, 100, 5, 1);
        // and here only while q is below 10: q + e is the first
        shallow(sentence, 1, 10, 0).taken(1, "span", -100, 5, 4, 0).taken(1, "span", -100, 5, 4, 1)
            .taken(Check.NONE, "span", -100, 5, 5, 0).taken(Check.NONE, "span", -100, 5, 5, 1);
    }
}
