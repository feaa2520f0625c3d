/** The boundaries that the document names of THE ROOM and of THINGS in it: section 1, promises 6 to 13. */
public final class RoomEdgesTest {
    private static final Check check = new Check("RoomEdgesTest");
    private static final int MIN = Integer.MIN_VALUE, MAX = Integer.MAX_VALUE;
    private static final int FOCUS = 0, OPENING = 1, DEPTH = 2, MIRROR = 3;
    private static final String[] NUMBERS = {"FOCUS", "OPENING", "DEPTH", "MIRROR", "GRAIN", "WIDE", "HIGH"};

    public static void main(String[] args) {
        promise6WhichNumber();
        promise6EachNumber();
        promise7WhichColumn();
        promise7Bend();
        promise8Told();
        promise9Place();
        promise9Full();
        promise10WhichThing();
        promise10Place();
        promise11WhichThing();
        promise11What();
        promise11ColumnRoundedDown();
        promise11ColumnAtLeastAtMost();
        promise11LeastE();
        promise11Mirror();
        promise11BlurOfAHole();
        promise11BlurOfALens();
        promise11GreatestNumbers();
        promise12WhichThing();
        promise12What();
        promise12OfSeveralTheLeast();
        promise12FirstAndLastDepth();
        promise12ColumnsAsTheyComeOut();
        promise12LeastE();
        promise13WithoutThings();
        promise13LeastSize();
        promise13ThenTheLesser();
        promise13EndsOfBends();
        promise13LeastE();
        promise13EveryColumn();
        check.end();
    }

    private static Edge edge(String sentence) {
        return new Edge(check, sentence);
    }

    private static void promise6WhichNumber() {
        edge("room: BAD: NUMBERS 0 to 6").given("room", 0, 7).given("room", 6, 70)
            .taken(7, "room", 0, 1).then(1, "told", 0).bad("room", -1, 1).bad("room", MIN, 1)
            .taken(70, "room", 6, 1).then(1, "told", 6).bad("room", 7, 1).bad("room", MAX, 1);
    }

    private static void promise6EachNumber() {
        int[] first = {0, 10, 100, 0, 5, 160, 100};
        int[] least = {0, 1, 1, 0, 0, 1, 1};
        int[] most = {500, 100, 1000, 1, 50, 400, 400};
        for (int which = 0; which < 7; which++) {
            edge("room: BAD: " + NUMBERS[which] + " is " + least[which] + " to " + most[which])
                .taken(first[which], "room", which, least[which]).then(least[which], "told", which)
                .taken(first[which], "room", which, most[which]).then(most[which], "told", which)
                .bad("room", which, least[which] - 1).bad("room", which, most[which] + 1)
                .bad("room", which, MIN).bad("room", which, MAX)
                .given("room", which, most[which])
                .taken(most[which], "room", which, least[which]).bad("room", which, most[which] + 1);
        }
    }

    private static void promise7WhichColumn() {
        edge("bend: BAD: COLUMNS -8 .. 8").given("bend", -8, 4).given("bend", 8, 6)
            .taken(4, "bend", -8, 1).then(1, "told", 7).bad("bend", -9, 1).bad("bend", MIN, 1)
            .taken(6, "bend", 8, 1).then(1, "told", 23).bad("bend", 9, 1).bad("bend", MAX, 1);
    }

    private static void promise7Bend() {
        Edge e = edge("bend: BAD: a BEND is -50 to 50");
        int[] columns = {-8, 0, 8};
        for (int column : columns) {
            e.given("bend", column, 3);
            e.taken(3, "bend", column, -50).then(-50, "told", column + 15).bad("bend", column, -51).bad("bend", column, MIN);
            e.taken(3, "bend", column, 50).then(50, "told", column + 15).bad("bend", column, 51).bad("bend", column, MAX);
        }
    }

    private static void promise8Told() {
        Edge e = edge("told: BAD: 0 to 6, 7 to 23").given("room", 0, 3).given("room", 6, 4).given("bend", -8, 5).given("bend", 8, 6);
        e.taken(3, "told", 0).bad("told", -1).bad("told", MIN);
        e.taken(4, "told", 6).taken(5, "told", 7);
        e.taken(6, "told", 23).bad("told", 24).bad("told", MAX);
    }

    private static void promise9Place() {
        Edge e = edge("thing: BAD: x, y -1000 to 1000, z 1 to 5000").given("thing", 1, 2, 3);
        e.taken(1, "thing", -1000, 0, 1).then(-1000, "picture", 1, 0).bad("thing", -1001, 0, 1).bad("thing", MIN, 0, 1);
        e.taken(1, "thing", 1000, 0, 1).then(1000, "picture", 1, 0).bad("thing", 1001, 0, 1).bad("thing", MAX, 0, 1);
        e.taken(1, "thing", 0, -1000, 1).then(-1000, "picture", 1, 1).bad("thing", 0, -1001, 1).bad("thing", 0, MIN, 1);
        e.taken(1, "thing", 0, 1000, 1).then(1000, "picture", 1, 1).bad("thing", 0, 1001, 1).bad("thing", 0, MAX, 1);
        e.taken(1, "thing", 0, 0, 1).then(1, "picture", 1, 2).bad("thing", 0, 0, 0).bad("thing", 0, 0, -1).bad("thing", 0, 0, MIN);
        e.taken(1, "thing", 0, 0, 5000).then(5000, "picture", 1, 2).bad("thing", 0, 0, 5001).bad("thing", 0, 0, MAX);
    }

    private static void promise9Full() {
        Edge e = edge("thing: FULL: 24");
        for (int i = 0; i < 23; i++) {
            e.given("thing", i, -i, 10 + i);
        }
        e.taken(23, "thing", 5, 6, 7).then(Check.FULL, "thing", 5, 6, 7).then(24, "count", 1).then(7, "picture", 23, 2);
        e.bad("kind", 23).bad("thing", 0, 0, 0);
        e.given("thing", 8, 9, 10);
        e.full("thing", 5, 6, 7).full("thing", 8, 9, 10);
        e.bad("thing", 1001, 0, 1).bad("thing", 0, -1001, 1).bad("thing", 0, 0, 0).bad("thing", 0, 0, 5001);
        e.taken(1, "move", 23, 1, 1, 1).then(Check.FULL, "thing", 5, 6, 7);
    }

    private static void promise10WhichThing() {
        Edge e = edge("move: BAD: there is no such thing").bad("move", 0, 0, 0, 1);
        e.given("thing", 1, 2, 3).taken(1, "move", 0, 4, 5, 6).then(4, "picture", 0, 0).bad("move", -1, 4, 5, 6).bad("move", 1, 4, 5, 6);
        e.bad("move", 23, 4, 5, 6).bad("move", 24, 4, 5, 6).bad("move", MIN, 4, 5, 6).bad("move", MAX, 4, 5, 6);
        for (int i = 1; i < 24; i++) {
            e.given("thing", i, 2, 3);
        }
        e.taken(1, "move", 23, 4, 5, 6).then(5, "picture", 23, 1).then(22, "picture", 22, 0).bad("move", 24, 4, 5, 6);
    }

    private static void promise10Place() {
        Edge e = edge("move: BAD: x, y -1000 to 1000, z 1 to 5000").given("thing", 7, 8, 9).given("thing", 1, 2, 3);
        e.taken(1, "move", 1, -1000, 0, 1).then(-1000, "picture", 1, 0).bad("move", 1, -1001, 0, 1).bad("move", 1, MIN, 0, 1);
        e.taken(1, "move", 1, 1000, 0, 1).then(1000, "picture", 1, 0).bad("move", 1, 1001, 0, 1).bad("move", 1, MAX, 0, 1);
        e.taken(1, "move", 1, 0, -1000, 1).then(-1000, "picture", 1, 1).bad("move", 1, 0, -1001, 1).bad("move", 1, 0, MIN, 1);
        e.taken(1, "move", 1, 0, 1000, 1).then(1000, "picture", 1, 1).bad("move", 1, 0, 1001, 1).bad("move", 1, 0, MAX, 1);
        e.taken(1, "move", 1, 0, 0, 1).then(1, "picture", 1, 2).bad("move", 1, 0, 0, 0).bad("move", 1, 0, 0, MIN);
        e.taken(1, "move", 1, 0, 0, 5000).then(5000, "picture", 1, 2).bad("move", 1, 0, 0, 5001).bad("move", 1, 0, 0, MAX);
    }

    private static void promise11WhichThing() {
        Edge e = edge("picture: BAD: there is no such thing").bad("picture", 0, 0);
        e.given("thing", 1, 2, 3).taken(1, "picture", 0, 0).bad("picture", -1, 0).bad("picture", 1, 0);
        e.bad("picture", 23, 0).bad("picture", MIN, 0).bad("picture", MAX, 0);
    }

    private static void promise11What() {
        edge("picture: BAD: what 0 to 8").given("thing", 200, 50, 400)
            .taken(200, "picture", 0, 0).bad("picture", 0, -1).bad("picture", 0, MIN)
            .taken(50, "picture", 0, 1).taken(400, "picture", 0, 2).taken(-50, "picture", 0, 3).taken(-2, "picture", 0, 4)
            .taken(100, "picture", 0, 5).taken(-50, "picture", 0, 6).taken(-12, "picture", 0, 7)
            .taken(12, "picture", 0, 8).bad("picture", 0, 9).bad("picture", 0, MAX);
    }

    /** FIRST is -x, as the THING is as far ahead as the table is behind. */
    private static void dueColumn(String sentence, int first, int column) {
        edge(sentence).given("thing", -first, 0, 100).taken(first, "picture", 0, 3).taken(column, "picture", 0, 4);
    }

    private static void promise11ColumnRoundedDown() {
        String sentence = "its COLUMN: (FIRST and 10) by 20, rounded down";
        int[][] sides = {{-11, -1}, {-10, 0}, {9, 0}, {10, 1}, {29, 1}, {30, 2}, {-30, -1}, {-31, -2}, {0, 0}, {1, 0}, {-1, 0}};
        for (int[] s : sides) {
            dueColumn(sentence, s[0], s[1]);
        }
        for (int column = -7; column <= 8; column++) {
            dueColumn(sentence, 20 * column - 11, column - 1);
            dueColumn(sentence, 20 * column - 10, column);
        }
    }

    private static void promise11ColumnAtLeastAtMost() {
        String sentence = "its COLUMN: -8 at least, 8 at most";
        int[][] sides = {{-150, -7}, {-151, -8}, {-170, -8}, {-171, -8}, {-190, -8}, {-191, -8}, {-1000, -8},
            {149, 7}, {150, 8}, {169, 8}, {170, 8}, {190, 8}, {1000, 8}};
        for (int[] s : sides) {
            dueColumn(sentence, s[0], s[1]);
        }
    }

    private static void promise11LeastE() {
        edge("E is DEPTH and the COLUMN's BEND, 1 at least").given("thing", 0, 0, 1).given("room", DEPTH, 50)
            .given("bend", 0, -48).taken(2, "picture", 0, 5)
            .given("bend", 0, -49).taken(1, "picture", 0, 5)
            .given("bend", 0, -50).taken(1, "picture", 0, 5)
            .given("room", DEPTH, 1).taken(1, "picture", 0, 5)
            .given("bend", 0, 0).taken(1, "picture", 0, 5)
            .given("bend", 0, 1).taken(2, "picture", 0, 5)
            .given("bend", 0, 50).given("room", DEPTH, 1000).taken(1050, "picture", 0, 5)
            .given("bend", 0, -50).taken(950, "picture", 0, 5)
            .given("bend", -1, 9).given("bend", 1, 9).taken(950, "picture", 0, 5);
    }

    private static void promise11Mirror() {
        edge("Y is - y E by z, with MIRROR 1 y E by z").given("thing", 0, 7, 300)
            .taken(-2, "picture", 0, 7).given("room", MIRROR, 1).taken(2, "picture", 0, 7)
            .given("move", 0, 0, -7, 300).taken(-2, "picture", 0, 7).given("room", MIRROR, 0).taken(2, "picture", 0, 7)
            .given("move", 0, 0, 0, 300).taken(0, "picture", 0, 7).given("room", MIRROR, 1).taken(0, "picture", 0, 7)
            .given("move", 0, 7, 0, 300).taken(-2, "picture", 0, 6).given("room", MIRROR, 0).taken(-2, "picture", 0, 6);
    }

    private static void dueBlur(String sentence, int focus, int opening, int depth, int z, int blur) {
        edge(sentence).given("room", FOCUS, focus).given("room", OPENING, opening).given("room", DEPTH, depth).given("thing", 0, 0, z)
            .taken(blur, "picture", 0, 8);
    }

    private static void promise11BlurOfAHole() {
        String sentence = "BLUR: of a hole OPENING (z + E) by z";
        dueBlur(sentence, 0, 10, 100, 100, 20);
        dueBlur(sentence, 0, 10, 99, 100, 19);
        dueBlur(sentence, 0, 10, 1000, 1, 10010);
        dueBlur(sentence, 0, 1, 1, 5000, 1);
        dueBlur(sentence, 0, 1, 1, 1, 2);
        dueBlur(sentence, 0, 100, 1000, 1, 100100);
    }

    /** On either side of where FOCUS is 0, where the THING is at the FOCUS, and where it is all sharp. */
    private static void promise11BlurOfALens() {
        String sentence = "BLUR: with a lens OPENING times how far E (z - FOCUS) is from FOCUS z, by FOCUS z";
        dueBlur(sentence, 1, 10, 100, 1, 10);
        dueBlur(sentence, 80, 100, 100, 79, 101);
        dueBlur(sentence, 80, 100, 100, 80, 100);
        dueBlur(sentence, 80, 100, 100, 81, 98);
        dueBlur(sentence, 50, 100, 99, 100, 1);
        dueBlur(sentence, 50, 100, 100, 100, 0);
        dueBlur(sentence, 50, 100, 101, 100, 1);
        dueBlur(sentence, 50, 10, 109, 100, 0);
        dueBlur(sentence, 50, 10, 110, 100, 1);
        dueBlur(sentence, 50, 10, 91, 100, 0);
        dueBlur(sentence, 50, 10, 90, 100, 1);
        dueBlur(sentence, 500, 100, 1, 1, 199);
        dueBlur(sentence, 500, 100, 1000, 5000, 80);
        dueBlur(sentence, 1, 100, 1000, 5000, 99880);
    }

    private static void promise11GreatestNumbers() {
        edge("PICTURE of the greatest numbers").given("room", DEPTH, 1000).given("bend", -8, 50).given("bend", 8, 50)
            .given("thing", 1000, 1000, 1).taken(-1000000, "picture", 0, 3).taken(-1050000, "picture", 0, 6)
            .taken(-1050000, "picture", 0, 7)
            .given("move", 0, -1000, -1000, 1).taken(1000000, "picture", 0, 3).taken(1050000, "picture", 0, 6)
            .taken(1050000, "picture", 0, 7).given("room", OPENING, 100).taken(105100, "picture", 0, 8)
            .given("room", FOCUS, 500).taken(104890, "picture", 0, 8)
            .given("room", FOCUS, 1).given("move", 0, -1000, -1000, 5000).taken(104879, "picture", 0, 8);
    }

    private static void promise12WhichThing() {
        Edge e = edge("focused: BAD: there is no such thing").bad("focused", 0, 0);
        e.given("thing", 0, 0, 100).taken(1, "focused", 0, 0).bad("focused", -1, 0).bad("focused", 1, 0);
        e.bad("focused", 23, 0).bad("focused", MIN, 0).bad("focused", MAX, 0);
    }

    private static void promise12What() {
        edge("focused: BAD: what 0, 1; nothing changes").given("thing", 0, 0, 100).given("room", FOCUS, 50)
            .taken(91, "focused", 0, 0).bad("focused", 0, -1).bad("focused", 0, MIN)
            .taken(0, "focused", 0, 1).bad("focused", 0, 2).bad("focused", 0, MAX);
    }

    /** BLUR is how far E is from 100, times OPENING, by 100: sharp from 91 to 109, or at 100 alone. */
    private static void promise12OfSeveralTheLeast() {
        edge("FOCUSED: of several the least").given("thing", 0, 0, 100).given("room", FOCUS, 50)
            .given("room", DEPTH, 90).taken(1, "picture", 0, 8).given("room", DEPTH, 91).taken(0, "picture", 0, 8)
            .given("room", DEPTH, 109).taken(0, "picture", 0, 8).taken(91, "focused", 0, 0).taken(0, "focused", 0, 1)
            .given("room", OPENING, 100).taken(100, "focused", 0, 0).taken(0, "focused", 0, 1)
            .given("bend", 0, 1).taken(99, "focused", 0, 0).given("bend", 0, -1).taken(101, "focused", 0, 0);
    }

    private static void promise12FirstAndLastDepth() {
        edge("FOCUSED: of all DEPTHS: the first").given("thing", 0, 0, 100).given("room", OPENING, 100)
            .taken(1, "focused", 0, 0).taken(101, "focused", 0, 1)
            .given("room", FOCUS, 500).taken(1, "focused", 0, 0).taken(100, "focused", 0, 1);
        // FIRST is 30 times the DEPTH: by 1 it falls on COLUMN 2, by 2 on 3, by 3 on 5
        edge("FOCUSED: of all DEPTHS: behind the first").given("thing", -60, 0, 2).given("room", OPENING, 100)
            .given("bend", 2, 50).given("bend", 3, -50).taken(2, "focused", 0, 0).taken(150, "focused", 0, 1)
            .given("bend", 3, 50).taken(3, "focused", 0, 0).given("bend", 2, -50).taken(1, "focused", 0, 0);
        // BLUR is how far E is from 1000, by 10
        edge("FOCUSED: of all DEPTHS: the last").given("thing", 0, 0, 1000).given("room", OPENING, 100).given("room", FOCUS, 500)
            .taken(991, "focused", 0, 0)
            .given("bend", 0, -9).taken(1000, "focused", 0, 0).taken(0, "focused", 0, 1)
            .given("bend", 0, -10).taken(991, "focused", 0, 0).taken(1, "focused", 0, 1)
            .given("bend", 0, -49).taken(1000, "focused", 0, 0).taken(4, "focused", 0, 1)
            .given("bend", 0, -50).taken(991, "focused", 0, 0).taken(5, "focused", 0, 1);
    }

    /** FIRST is the DEPTH here; COLUMN 1 begins at 10, COLUMN 8 at 150. BLUR is 100 and E. */
    private static void promise12ColumnsAsTheyComeOut() {
        Edge e = edge("FOCUSED: with COLUMNS and BENDS as they come out so").given("thing", -100, 0, 100).given("room", OPENING, 100);
        e.given("bend", 0, 12).taken(10, "focused", 0, 0).taken(110, "focused", 0, 1);
        e.given("bend", 0, 9).taken(1, "focused", 0, 0).taken(110, "focused", 0, 1);
        e.given("bend", 0, 10).taken(10, "focused", 0, 0).given("bend", 1, 2).taken(1, "focused", 0, 0);
        for (int column = 0; column < 8; column++) {
            e.given("bend", column, 50);
        }
        e.taken(1, "focused", 0, 0).taken(151, "focused", 0, 1);
        // from here on BLUR is how far E is from 100: it is 0 at 50, then at 150 where COLUMN 8 begins, then 20 at 70
        e.given("room", FOCUS, 50).given("bend", 8, -50).taken(50, "focused", 0, 0).taken(0, "focused", 0, 1);
        e.given("bend", 2, -50).given("bend", 3, -50).taken(150, "focused", 0, 0).taken(0, "focused", 0, 1);
        e.given("bend", 8, 50).taken(70, "focused", 0, 0).taken(20, "focused", 0, 1);
    }

    private static void promise12LeastE() {
        edge("FOCUSED: E is 1 at least").given("thing", 0, 0, 100).given("room", OPENING, 100)
            .given("bend", 0, -50).taken(1, "focused", 0, 0).taken(101, "focused", 0, 1)
            .given("bend", 0, -1).taken(1, "focused", 0, 0).taken(101, "focused", 0, 1)
            .given("bend", 0, 1).taken(1, "focused", 0, 0).taken(102, "focused", 0, 1);
    }

    private static void promise13WithoutThings() {
        edge("BENT: 0 without THINGS").given("bend", -8, 50).given("bend", 0, 3).given("bend", 8, -50)
            .taken(0, "bent").then(0, "told", 7).then(0, "told", 15).then(0, "told", 23).then(0, "count", 7)
            .given("thing", 0, 0, 100)
            .taken(1, "bent").then(0, "told", 7).then(-41, "told", 15).then(0, "told", 23).then(1, "count", 7)
            // in COLUMN 1 it is no longer of COLUMN 0
            .given("move", 0, -10, 0, 100)
            .taken(1, "bent").then(0, "told", 15).then(-41, "told", 16);
    }

    /** BLUR is how far E is from 100, by 10. */
    private static void promise13LeastSize() {
        Edge e = edge("BENT: of several that of the least size").given("thing", 0, 0, 100).given("room", FOCUS, 50);
        int[][] depths = {{100, 0}, {109, 0}, {110, -1}, {111, -2}, {91, 0}, {90, 1}, {89, 2}, {159, -50}, {41, 50}};
        for (int[] d : depths) {
            e.given("room", DEPTH, d[0]).taken(d[1] == 0 ? 0 : 1, "bent").then(d[1], "told", 15).then(d[1] == 0 ? 0 : 1, "count", 7);
        }
        // beyond reach the least BLUR is 1, from E of 119 and of 81 on
        e.given("room", DEPTH, 160).taken(1, "bent").then(-41, "told", 15);
        e.given("room", DEPTH, 40).taken(1, "bent").then(41, "told", 15);
        e.given("bend", 0, 7).given("room", DEPTH, 100).taken(0, "bent").then(0, "told", 15);
    }

    /** By these numbers the BLURS added are 20 from -13 to 13, and 19 by -14 and by 14. */
    private static void promise13ThenTheLesser() {
        edge("BENT: of the least size, then the lesser").given("room", FOCUS, 197).given("room", OPENING, 11)
            .given("room", DEPTH, 268).given("thing", 0, 0, 132).given("thing", 0, 0, 461)
            .taken(1, "bent").then(-14, "told", 15);
    }

    /** BLUR is how far E is from 100. */
    private static void promise13EndsOfBends() {
        Edge e = edge("BENT: a BEND is -50 to 50").given("thing", 0, 0, 100).given("room", FOCUS, 50).given("room", OPENING, 100);
        int[][] depths = {{149, -49}, {150, -50}, {151, -50}, {1000, -50}, {51, 49}, {50, 50}, {49, 50}, {1, 50}, {101, -1}, {99, 1}};
        for (int[] d : depths) {
            e.given("room", DEPTH, d[0]).taken(1, "bent").then(d[1], "told", 15);
        }
    }

    /** BLUR of the hole is 100 and E: the least E is the best, and of several BENDS for it that of the least size. */
    private static void promise13LeastE() {
        Edge e = edge("BENT: E is 1 at least").given("thing", 0, 0, 100).given("room", OPENING, 100);
        int[][] depths = {{1, 0}, {2, -1}, {3, -2}, {49, -48}, {50, -49}, {51, -50}, {52, -50}};
        for (int[] d : depths) {
            e.given("room", DEPTH, d[0]).taken(d[1] == 0 ? 0 : 1, "bent").then(d[1], "told", 15);
        }
    }

    private static void promise13EveryColumn() {
        Edge e = edge("bent: how many are not 0: of 17 COLUMNS").given("room", OPENING, 100);
        for (int column = -8; column <= 8; column++) {
            e.given("thing", -20 * column, 0, 100);
        }
        e.taken(17, "bent").then(-50, "told", 7).then(-50, "told", 15).then(-50, "told", 23).then(17, "count", 7).then(17, "bent");
        e.given("move", 0, 0, 0, 100).taken(16, "bent").then(0, "told", 7);
        // all that are beyond an end are of the COLUMN at the end
        e.given("move", 16, -1000, 0, 1).given("move", 0, 1000, 0, 1).taken(17, "bent");
    }
}
