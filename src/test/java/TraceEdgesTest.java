/** The boundaries that the document names of TRACES: section 2, promises 14 to 20. */
public final class TraceEdgesTest {
    private static final Check check = new Check("TraceEdgesTest");
    private static final int MIN = Integer.MIN_VALUE, MAX = Integer.MAX_VALUE;
    private static final int WIDE = 5, HIGH = 6;

    public static void main(String[] args) {
        promise14WhichTrace();
        promise14WhichNumber();
        promise14Place();
        promise14ThereWasOne();
        promise15WhichMark();
        promise15ThereWasNone();
        promise16WhichTrace();
        promise16JustSeen();
        promise16NoOthers();
        promise16AllThings();
        promise17WhichMark();
        promise17None();
        promise18WhichTraces();
        promise18What();
        promise18NoneInCommon();
        promise18LeastNumber();
        promise18GreatestShifts();
        promise19HowMany();
        promise19What();
        promise19NoneInCommon();
        promise19BehindTheLast();
        promise19GreatestError();
        promise20Refused();
        promise20NoTraceHasIt();
        promise20NoneInCommon();
        promise20ErrorCut();
        promise20PlaceCut();
        check.end();
    }

    private static Edge edge(String sentence) {
        return new Edge(check, sentence);
    }

    private static void promise14WhichTrace() {
        edge("mark: BAD: TRACE").given("mark", 0, 0, 5, 6).given("mark", 7, 0, 7, 8)
            .taken(1, "mark", 0, 1, 3, 4).then(3, "marked", 0, 1, 0).bad("mark", -1, 1, 3, 4).bad("mark", MIN, 1, 3, 4)
            .taken(1, "mark", 7, 1, 3, 4).then(4, "marked", 7, 1, 1).bad("mark", 8, 1, 3, 4).bad("mark", MAX, 1, 3, 4);
    }

    private static void promise14WhichNumber() {
        edge("mark: BAD: number (0 to 23, whether there is such a THING or not)").given("mark", 3, 1, 5, 6)
            .taken(1, "mark", 3, 0, 3, 4).then(3, "marked", 3, 0, 0).bad("mark", 3, -1, 3, 4).bad("mark", 3, MIN, 3, 4)
            .taken(1, "mark", 3, 23, 3, 4).then(4, "marked", 3, 23, 1).bad("mark", 3, 24, 3, 4).bad("mark", 3, MAX, 3, 4)
            .given("thing", 0, 0, 1)
            .taken(1, "mark", 3, 0, 3, 4).taken(1, "mark", 3, 23, 3, 4).bad("mark", 3, -1, 3, 4).bad("mark", 3, 24, 3, 4);
    }

    private static void promise14Place() {
        edge("mark: BAD: x, y (-1000 to 1000 each)").given("mark", 2, 2, 5, 6)
            .taken(0, "mark", 2, 2, -1000, 0).then(-1000, "marked", 2, 2, 0).bad("mark", 2, 2, -1001, 0).bad("mark", 2, 2, MIN, 0)
            .taken(0, "mark", 2, 2, 1000, 0).then(1000, "marked", 2, 2, 0).bad("mark", 2, 2, 1001, 0).bad("mark", 2, 2, MAX, 0)
            .taken(0, "mark", 2, 2, 0, -1000).then(-1000, "marked", 2, 2, 1).bad("mark", 2, 2, 0, -1001).bad("mark", 2, 2, 0, MIN)
            .taken(0, "mark", 2, 2, 0, 1000).then(1000, "marked", 2, 2, 1).bad("mark", 2, 2, 0, 1001).bad("mark", 2, 2, 0, MAX);
    }

    private static void promise14ThereWasOne() {
        edge("mark: 1; 0: there was one (it is gone)")
            .taken(1, "mark", 0, 0, 0, 0).then(0, "mark", 0, 0, 3, 4).then(3, "marked", 0, 0, 0).then(4, "marked", 0, 0, 1).then(1, "count", 5)
            .then(0, "mark", 0, 0, 3, 4).then(1, "rub", 0, 0).then(1, "mark", 0, 0, 3, 4)
            .given("mark", 0, 5, 1, 2).taken(1, "mark", 1, 5, 1, 2).taken(1, "mark", 0, 4, 1, 2).taken(0, "mark", 0, 5, 1, 2);
    }

    private static void promise15WhichMark() {
        edge("rub: BAD").given("mark", 0, 0, 1, 2).given("mark", 7, 23, 3, 4)
            .taken(1, "rub", 0, 0).then(Check.NONE, "marked", 0, 0, 0).then(3, "marked", 7, 23, 0).then(1, "count", 5)
            .taken(1, "rub", 7, 23).then(Check.NONE, "marked", 7, 23, 1).then(1, "marked", 0, 0, 0).then(1, "count", 6)
            .bad("rub", -1, 0).bad("rub", 8, 23).bad("rub", MIN, 0).bad("rub", MAX, 0)
            .bad("rub", 0, -1).bad("rub", 7, 24).bad("rub", 0, MIN).bad("rub", 0, MAX);
    }

    private static void promise15ThereWasNone() {
        edge("rub: 1; 0: there was none").taken(0, "rub", 0, 0).then(0, "count", 5).then(0, "rub", 0, 0)
            .given("mark", 0, 0, 1, 2)
            .taken(1, "rub", 0, 0).then(0, "rub", 0, 0).then(0, "count", 5).then(0, "count", 6)
            .taken(0, "rub", 0, 1).then(1, "count", 5).taken(0, "rub", 1, 0).then(1, "count", 5);
    }

    private static void promise16WhichTrace() {
        edge("draw: BAD").given("thing", 0, 0, 1).given("mark", 0, 9, 1, 2).given("mark", 7, 9, 1, 2)
            .taken(1, "draw", 0).then(0, "marked", 0, 0, 0).bad("draw", -1).bad("draw", MIN)
            .taken(1, "draw", 7).then(0, "marked", 7, 0, 0).bad("draw", 8).bad("draw", MAX);
    }

    /** By a z of 100 X is -x and Y is -y; WIDE is 160 and HIGH 100, then 1, then 400. */
    private static void promise16JustSeen() {
        int[][] tables = {{160, 100}, {1, 1}, {400, 400}};
        for (int[] table : tables) {
            Edge e = edge("draw: THINGS that are SEEN: X from -WIDE to WIDE, Y from -HIGH to HIGH").given("thing", 0, 0, 100)
                .given("room", WIDE, table[0]).given("room", HIGH, table[1]);
            int[][] sides = {{table[0], 0}, {-table[0], 0}, {0, table[1]}, {0, -table[1]}};
            for (int[] s : sides) {
                int stepX = Integer.signum(s[0]);
                int stepY = Integer.signum(s[1]);
                e.given("move", 0, s[0], s[1], 100).taken(1, "draw", 0);
                e.then(-s[0], "marked", 0, 0, 0).then(-s[1], "marked", 0, 0, 1);
                e.given("move", 0, s[0] + stepX, s[1] + stepY, 100).taken(0, "draw", 0).then(Check.NONE, "marked", 0, 0, 0);
            }
        }
    }

    private static void promise16NoOthers() {
        edge("draw: no others: without THINGS").given("mark", 0, 0, 1, 1).given("mark", 0, 23, 2, 2).given("mark", 1, 0, 3, 3)
            .taken(0, "draw", 0).then(Check.NONE, "marked", 0, 0, 0).then(Check.NONE, "marked", 0, 23, 0)
            .then(3, "marked", 1, 0, 0).then(1, "count", 5);
        edge("draw: no others").given("thing", 1000, 0, 1).given("thing", 30, 0, 100)
            .given("mark", 0, 0, 1, 1).given("mark", 0, 1, 2, 2).given("mark", 0, 2, 3, 3)
            .taken(1, "draw", 0).then(Check.NONE, "marked", 0, 0, 0).then(-30, "marked", 0, 1, 0).then(Check.NONE, "marked", 0, 2, 0);
    }

    private static void promise16AllThings() {
        Edge e = edge("draw: where all THINGS fall: 24 of them");
        for (int i = 0; i < 24; i++) {
            e.given("thing", i, -i, 100);
        }
        e.taken(24, "draw", 3).then(0, "marked", 3, 0, 0).then(-23, "marked", 3, 23, 0).then(23, "marked", 3, 23, 1).then(24, "count", 5);
        e.given("move", 23, 1000, 0, 1).taken(23, "draw", 3).then(Check.NONE, "marked", 3, 23, 0).then(-22, "marked", 3, 22, 0);
    }

    private static void promise17WhichMark() {
        edge("marked: BAD").given("mark", 0, 0, 1, 2).given("mark", 7, 23, 3, 4)
            .taken(1, "marked", 0, 0, 0).bad("marked", 0, 0, -1).bad("marked", 0, 0, MIN)
            .taken(2, "marked", 0, 0, 1).bad("marked", 0, 0, 2).bad("marked", 0, 0, MAX)
            .taken(3, "marked", 7, 23, 0).taken(4, "marked", 7, 23, 1)
            .bad("marked", -1, 0, 0).bad("marked", 8, 23, 0).bad("marked", MIN, 0, 0).bad("marked", MAX, 0, 0)
            .bad("marked", 0, -1, 0).bad("marked", 7, 24, 0).bad("marked", 0, MIN, 0).bad("marked", 0, MAX, 0);
    }

    private static void promise17None() {
        edge("marked: NONE").given("mark", 3, 5, 1, 2).given("thing", 0, 0, 1)
            .taken(Check.NONE, "marked", 3, 4, 0).taken(Check.NONE, "marked", 3, 6, 1).taken(Check.NONE, "marked", 2, 5, 0)
            .taken(Check.NONE, "marked", 3, 0, 0).bad("marked", 3, 4, 2).taken(1, "marked", 3, 5, 0)
            .given("rub", 3, 5).taken(Check.NONE, "marked", 3, 5, 0);
    }

    private static void promise18WhichTraces() {
        edge("joined: BAD (a may be b)").given("mark", 0, 0, 5, 9).given("mark", 7, 0, 1, 2)
            .taken(4, "joined", 0, 7, 1).taken(-4, "joined", 7, 0, 1).taken(7, "joined", 0, 7, 2).taken(-7, "joined", 7, 0, 2)
            .taken(1, "joined", 0, 0, 0).taken(0, "joined", 0, 0, 1).taken(0, "joined", 7, 7, 2).taken(0, "joined", 7, 7, 3)
            .bad("joined", -1, 0, 0).bad("joined", 8, 0, 0).bad("joined", MIN, 0, 0).bad("joined", MAX, 0, 0)
            .bad("joined", 0, -1, 0).bad("joined", 0, 8, 0).bad("joined", 0, MIN, 0).bad("joined", 0, MAX, 0)
            .bad("joined", 8, 8, 0).bad("joined", -1, -1, 0);
    }

    private static void promise18What() {
        edge("joined: BAD: what 0 to 3").given("mark", 0, 0, 5, 9).given("mark", 1, 0, 1, 2).given("mark", 0, 1, 8, 8)
            .given("mark", 1, 1, 1, 1)
            .taken(2, "joined", 0, 1, 0).bad("joined", 0, 1, -1).bad("joined", 0, 1, MIN)
            .taken(4, "joined", 0, 1, 1).taken(7, "joined", 0, 1, 2)
            .taken(3, "joined", 0, 1, 3).bad("joined", 0, 1, 4).bad("joined", 0, 1, MAX)
            .bad("joined", 3, 4, 4).bad("joined", 3, 4, -1);
    }

    private static void promise18NoneInCommon() {
        edge("joined: NONE (of 1 to 3): none").taken(0, "joined", 0, 0, 0).taken(Check.NONE, "joined", 0, 0, 1)
            .given("mark", 0, 0, 5, 9).given("mark", 1, 1, 1, 2)
            .taken(0, "joined", 0, 1, 0).taken(Check.NONE, "joined", 0, 1, 1).taken(Check.NONE, "joined", 0, 1, 2)
            .taken(Check.NONE, "joined", 0, 1, 3).taken(Check.NONE, "joined", 0, 2, 1)
            .given("mark", 1, 0, 5, 9)
            .taken(1, "joined", 0, 1, 0).taken(0, "joined", 0, 1, 1).taken(0, "joined", 0, 1, 2).taken(0, "joined", 0, 1, 3);
    }

    /** MARKS of 0 are at x, -x for each of these, those of 1 all at 0, 0. */
    private static Edge apart(String sentence, int... x) {
        Edge e = edge(sentence);
        for (int i = 0; i < x.length; i++) {
            e.given("mark", 0, i, x[i], -x[i]).given("mark", 1, i, 0, 0);
        }
        return e;
    }

    private static void promise18LeastNumber() {
        String sentence = "the shift in x is the least number from which these differ least";
        apart(sentence, 4).taken(4, "joined", 0, 1, 1).taken(-4, "joined", 0, 1, 2).taken(0, "joined", 0, 1, 3);
        apart(sentence, 4, 1).taken(1, "joined", 0, 1, 1).taken(-4, "joined", 0, 1, 2).taken(6, "joined", 0, 1, 3)
            .taken(-4, "joined", 1, 0, 1).taken(1, "joined", 1, 0, 2).taken(6, "joined", 1, 0, 3);
        apart(sentence, 9, 1, 4).taken(4, "joined", 0, 1, 1).taken(-4, "joined", 0, 1, 2).taken(16, "joined", 0, 1, 3);
        apart(sentence, 9, -3, 7, 1).taken(1, "joined", 0, 1, 1).taken(-7, "joined", 0, 1, 2).taken(36, "joined", 0, 1, 3);
        apart(sentence, 5, 5, 5, -900).taken(5, "joined", 0, 1, 1).taken(-5, "joined", 0, 1, 2).taken(1810, "joined", 0, 1, 3);
        int[] all = new int[24];
        for (int i = 0; i < 24; i++) {
            all[i] = 7 * i % 24;
        }
        apart(sentence, all).taken(24, "joined", 0, 1, 0).taken(11, "joined", 0, 1, 1).taken(-12, "joined", 0, 1, 2)
            .taken(288, "joined", 0, 1, 3);
    }

    private static void promise18GreatestShifts() {
        Edge e = edge("JOINED: MARKS at the ends of the paper");
        for (int i = 0; i < 24; i++) {
            int x = i < 12 ? 1000 : -1000;
            e.given("mark", 0, i, x, -x).given("mark", 1, i, -x, x);
        }
        e.taken(-2000, "joined", 0, 1, 1).taken(-2000, "joined", 0, 1, 2).taken(96000, "joined", 0, 1, 3);
        // twelve are at one end now, eleven at the other
        e.given("rub", 1, 23).taken(2000, "joined", 0, 1, 1).taken(-2000, "joined", 0, 1, 2).taken(88000, "joined", 0, 1, 3);
    }

    /** TRACES k and k + 1 of n have MARK k alone in common, by a shift of each of these; behind n - 1 is 0. */
    private static Edge ring(String sentence, int... shifts) {
        Edge e = edge(sentence);
        for (int k = 0; k < shifts.length; k++) {
            e.given("mark", k, k, 0, 0).given("mark", (k + 1) % shifts.length, k, -shifts[k], shifts[k]);
        }
        return e;
    }

    private static void promise19HowMany() {
        Edge e = edge("round: BAD: A ROUND of n TRACES (2 to 8)");
        for (int k = 0; k < 8; k++) {
            e.given("mark", k, 0, 10 * k, 0);
        }
        e.taken(0, "round", 2, 0).bad("round", 1, 0).bad("round", 0, 0).bad("round", -1, 0).bad("round", MIN, 0);
        e.taken(0, "round", 8, 0).bad("round", 9, 0).bad("round", MAX, 0);
        e.taken(0, "around", 2, 0, 0).bad("around", 1, 0, 0).bad("around", 0, 0, 0).bad("around", MIN, 0, 0);
        e.taken(0, "around", 8, 0, 0).bad("around", 9, 0, 0).bad("around", MAX, 0, 0);
    }

    private static void promise19What() {
        ring("round: BAD: what 0 to 2", 1, 1, 2)
            .taken(4, "round", 3, 0).bad("round", 3, -1).bad("round", 3, MIN)
            .taken(-4, "round", 3, 1)
            .taken(0, "round", 3, 2).bad("round", 3, 3).bad("round", 3, MAX)
            .bad("round", 4, 3).bad("round", 4, -1);
    }

    /** Of each two that follow, the last and the first too, the one MARK is taken off. */
    private static void promise19NoneInCommon() {
        String sentence = "round: NONE: two that follow have no MARK in common";
        for (int k = 0; k < 8; k++) {
            ring(sentence, 1, 2, 3, 4, 5, 6, 7, 8).taken(36, "round", 8, 0).given("rub", k, k)
                .taken(Check.NONE, "round", 8, 0).taken(Check.NONE, "round", 8, 1).taken(Check.NONE, "round", 8, 2)
                .taken(Check.NONE, "around", 8, (k + 1) % 8, 0).bad("round", 8, 3);
        }
        edge(sentence).taken(Check.NONE, "round", 2, 0).taken(Check.NONE, "round", 8, 2)
            .given("mark", 0, 0, 1, 1).taken(Check.NONE, "round", 2, 0)
            .given("mark", 1, 0, 3, 4).taken(0, "round", 2, 0).taken(Check.NONE, "round", 3, 0)
            .given("mark", 2, 0, 3, 4).taken(0, "round", 3, 0).taken(Check.NONE, "round", 4, 0);
    }

    /** 2 and 0 have nothing in common, so of 3 there is no ROUND, while there is one of 4, and one of 2. */
    private static void promise19BehindTheLast() {
        ring("A ROUND: 0, 1, .., n - 1 and 0 again", 1, 2, 3, 4).taken(10, "round", 4, 0).taken(-10, "round", 4, 1)
            .taken(Check.NONE, "round", 3, 0).taken(0, "round", 2, 0)
            .given("mark", 2, 3, 0, 0).taken(1 + 2 + 4, "round", 3, 0).taken(-7, "round", 3, 1);
    }

    private static void promise19GreatestError() {
        Edge e = edge("ERROR of MARKS at the ends of the paper");
        for (int k = 0; k < 8; k++) {
            e.given("mark", k, k, 1000, -1000).given("mark", (k + 1) % 8, k, -1000, 1000);
        }
        e.taken(16000, "round", 8, 0).taken(-16000, "round", 8, 1).taken(0, "round", 8, 2).taken(0, "around", 8, 7, 0);
        e.given("mark", 7, 20, 1000, -1000).taken(1000, "around", 8, 20, 0).taken(-1000, "around", 8, 20, 1);
    }

    private static void promise20Refused() {
        ring("around: BAD: n, number, what", 1, 1, 2).given("mark", 0, 23, 5, 6)
            .taken(5, "around", 3, 23, 0).taken(6, "around", 3, 23, 1).bad("around", 3, 24, 0).bad("around", 3, MAX, 0)
            .taken(0, "around", 3, 0, 0).bad("around", 3, -1, 0).bad("around", 3, MIN, 0)
            .bad("around", 3, 0, -1).bad("around", 3, 0, 2).bad("around", 3, 0, MIN).bad("around", 3, 0, MAX)
            .bad("around", 4, 24, 0).bad("around", 4, 0, 2);
    }

    private static void promise20NoTraceHasIt() {
        ring("around: NONE: no TRACE of these has it", 1, 1, 2).given("mark", 3, 9, 5, 6)
            .taken(Check.NONE, "around", 3, 9, 0).taken(Check.NONE, "around", 3, 9, 1).taken(Check.NONE, "around", 3, 23, 0)
            .given("mark", 0, 9, 7, 8).taken(7, "around", 3, 9, 0).taken(8, "around", 3, 9, 1)
            .given("rub", 0, 9).taken(Check.NONE, "around", 3, 9, 0);
    }

    private static void promise20NoneInCommon() {
        ring("around: NONE: two that follow have no MARK in common", 1, 1, 2).given("mark", 0, 9, 7, 8)
            .taken(7, "around", 3, 9, 0)
            .given("rub", 0, 2).taken(Check.NONE, "around", 3, 9, 0).taken(Check.NONE, "around", 3, 9, 1)
            .taken(Check.NONE, "around", 3, 23, 0).bad("around", 3, 24, 0).taken(7, "around", 2, 9, 0);
    }

    /** MARK 10 is on TRACE 1 alone, 11 on 2 alone, both at 0, 0: their places are CLOSED of 1, of 2. */
    private static void dueClosed(int s0, int s1, int s2, int closed1, int closed2) {
        ring("CLOSED: STANDS(k) less ERROR times k by n, cut", s0, s1, s2).given("mark", 0, 9, 0, 0).given("mark", 1, 10, 0, 0)
            .given("mark", 2, 11, 0, 0)
            .taken(0, "around", 3, 9, 0).taken(0, "around", 3, 9, 1)
            .taken(closed1, "around", 3, 10, 0).taken(-closed1, "around", 3, 10, 1)
            .taken(closed2, "around", 3, 11, 0).taken(-closed2, "around", 3, 11, 1);
    }

    private static void promise20ErrorCut() {
        dueClosed(0, 0, 0, 0, 0);
        dueClosed(0, 0, 1, 0, 0);
        dueClosed(0, 0, 2, 0, -1);
        dueClosed(0, 0, 3, -1, -2);
        dueClosed(0, 0, 4, -1, -2);
        dueClosed(0, 0, 5, -1, -3);
        dueClosed(1, 1, 2, 0, 0);
        dueClosed(5, -9, 2, 5, -3);
        // of two TRACES, by MARKS that are 0 and 3 apart: the ERROR is -3, CLOSED of 1 is 1
        edge("CLOSED of two, cut").given("mark", 0, 0, 0, 0).given("mark", 1, 0, 0, 0).given("mark", 0, 1, 3, 0).given("mark", 1, 1, 0, 0)
            .given("mark", 1, 2, 10, 10)
            .taken(-3, "round", 2, 0).taken(0, "round", 2, 1).taken(6, "round", 2, 2)
            .taken(11, "around", 2, 2, 0).taken(10, "around", 2, 2, 1).taken(0, "around", 2, 0, 0).taken(2, "around", 2, 1, 0);
    }

    /** Three MARKS at the same place on both hold the shifts at 0; the fourth is x and y added, by two. */
    private static void duePlace(int onFirst, int onSecond, int place) {
        Edge e = edge("A MARK's place ROUND: added, by how many, cut");
        for (int number = 0; number < 3; number++) {
            e.given("mark", 0, number, 50, 50).given("mark", 1, number, 50, 50);
        }
        e.given("mark", 0, 3, onFirst, -onFirst).given("mark", 1, 3, onSecond, -onSecond);
        e.taken(0, "round", 2, 0).taken(0, "round", 2, 1);
        e.taken(place, "around", 2, 3, 0).taken(-place, "around", 2, 3, 1).taken(50, "around", 2, 0, 0);
    }

    private static void promise20PlaceCut() {
        duePlace(0, 0, 0);
        duePlace(0, 1, 0);
        duePlace(0, 2, 1);
        duePlace(0, -1, 0);
        duePlace(0, -2, -1);
        duePlace(1, 2, 1);
        duePlace(-1, -2, -1);
        duePlace(1000, 1000, 1000);
    }
}
