/**
 * A dark room that draws, as ../shared/DOC.md tells it: sheets, the room and its things, traces,
 * two rooms and studios, the sun's spot, and asks. The words in capitals are the document's own.
 */
public final class LensTable {
    public static final int NONE = -1000000, BAD = -1000001, STATE = -1000002, FULL = -1000003;

    private static final int FOUND = -1000010;
    private static final int NULL = 1, PLACE = 2, KIND = 3, SIZE = 4, STORE = 5;

    private static final int SHEETS = 8, ITEMS = 80;
    private static final int BYTES = 0, SHORTS = 1, INTS = 2;

    private static final int FOCUS = 0, OPENING = 1, DEPTH = 2, MIRROR = 3, GRAIN = 4, WIDE = 5, HIGH = 6;
    private static final int NUMBERS = 7;
    private static final int[] NUMBER_LEAST = {0, 1, 1, 0, 0, 1, 1};
    private static final int[] NUMBER_MOST = {500, 100, 1000, 1, 50, 400, 400};
    private static final int DEPTH_LEAST = 1, DEPTH_MOST = 1000;
    private static final int COLUMN_MOST = 8, COLUMNS = 17, BEND_MOST = 50;

    private static final int THINGS = 24, PLACE_MOST = 1000, Z_MOST = 5000;
    private static final int THING = 0, SEEN = 1, SHARP = 2, LOST = 3;

    private static final int TRACES = 8;

    private static final int ROOMS = 2, DOUBT_MOST = 20;
    private static final int STUDIO_ITEMS = 4, STUDIOS_MOST = 20;
    private static final int APART_MOST = 500, NOT_PUT = 1000;

    private static final int YEAR = 365, LONGEST_DAY = 172, HOUR_MOST = 6, HOLE_MOST = 1000;

    private final Sheet[] sheets = new Sheet[SHEETS];
    private final Room room = new Room();
    private final Thing[] things = new Thing[THINGS];
    private int thingsMade = 0;
    private final Picture image = new Picture();
    private final Trace[] traces = new Trace[TRACES];
    private final Joint joint = new Joint();
    private final Ring ring = new Ring();
    private final Stand[] stands = new Stand[ROOMS];
    private final Sight sight = new Sight();
    private final Stand painter = new Stand();
    private final Bodies bodies = new Bodies();
    private int lastFinding = 0;

    public LensTable() {
        for (int i = 0; i < SHEETS; i++) {
            sheets[i] = new Sheet();
        }
        for (int i = 0; i < THINGS; i++) {
            things[i] = new Thing();
        }
        for (int i = 0; i < TRACES; i++) {
            traces[i] = new Trace();
        }
        for (int i = 0; i < ROOMS; i++) {
            stands[i] = new Stand();
        }
    }

    // ---- sheets

    public int sheet(int sheet, int lane, int n) {
        if (!isSheet(sheet) || !within(lane, BYTES, INTS) || n > ITEMS) {
            return BAD;
        }
        if (n < 0) {
            return found(SIZE);
        }
        sheets[sheet].lay(lane, n);
        return clean(n);
    }

    public int set(int sheet, int i, int v) {
        if (!isSheet(sheet)) {
            return BAD;
        }
        Sheet s = sheets[sheet];
        if (s.isMissing()) {
            return found(NULL);
        }
        if (!s.holds(i, 1)) {
            return found(PLACE);
        }
        return clean(s.write(i, v));
    }

    public int copy(int a, int i, int b, int j, int n) {
        if (!isSheet(a) || !isSheet(b)) {
            return BAD;
        }
        Sheet from = sheets[a];
        Sheet to = sheets[b];
        if (from.isMissing() || to.isMissing()) {
            return found(NULL);
        }
        if (from.lane != to.lane) {
            return found(STORE);
        }
        if (!from.holds(i, n) || !to.holds(j, n)) {
            return found(PLACE);
        }
        System.arraycopy(from.items, i, to.items, j, n);
        return clean(n);
    }

    public int drop(int sheet) {
        if (!isSheet(sheet)) {
            return BAD;
        }
        if (sheets[sheet].isMissing()) {
            return found(NULL);
        }
        return clean(sheets[sheet].lose());
    }

    // ---- the room

    public int room(int which, int v) {
        if (!within(which, 0, NUMBERS - 1) || !within(v, NUMBER_LEAST[which], NUMBER_MOST[which])) {
            return BAD;
        }
        int was = room.numbers[which];
        room.numbers[which] = v;
        return was;
    }

    public int bend(int column, int v) {
        if (!within(column, -COLUMN_MOST, COLUMN_MOST) || !within(v, -BEND_MOST, BEND_MOST)) {
            return BAD;
        }
        int was = room.bends[column + COLUMN_MOST];
        room.bends[column + COLUMN_MOST] = v;
        return was;
    }

    public int told(int which) {
        if (!within(which, 0, NUMBERS + COLUMNS - 1)) {
            return BAD;
        }
        return which < NUMBERS ? room.numbers[which] : room.bends[which - NUMBERS];
    }

    public int thing(int x, int y, int z) {
        if (!isPlace(x, y, z)) {
            return BAD;
        }
        if (thingsMade >= THINGS) {
            return FULL;
        }
        things[thingsMade].put(x, y, z);
        thingsMade++;
        return thingsMade - 1;
    }

    public int move(int thing, int x, int y, int z) {
        if (!isThing(thing) || !isPlace(x, y, z)) {
            return BAD;
        }
        things[thing].put(x, y, z);
        return 1;
    }

    public int picture(int thing, int what) {
        if (!isThing(thing) || !within(what, 0, 8)) {
            return BAD;
        }
        Thing t = things[thing];
        image.take(room, t);
        switch (what) {
            case 0: return t.x;
            case 1: return t.y;
            case 2: return t.z;
            case 3: return image.first;
            case 4: return image.column;
            case 5: return image.e;
            case 6: return image.x;
            case 7: return image.y;
            default: return image.blur;
        }
    }

    public int focused(int thing, int what) {
        if (!isThing(thing) || !within(what, 0, 1)) {
            return BAD;
        }
        int best = room.sharpestDepth(things[thing]);
        return what == 0 ? best : room.blurAt(best, things[thing]);
    }

    public int bent() {
        for (int column = -COLUMN_MOST; column <= COLUMN_MOST; column++) {
            room.clearBlurs();
            for (int i = 0; i < thingsMade; i++) {
                if (Room.columnAt(room.numbers[DEPTH], things[i]) == column) {
                    room.addBlurs(things[i].z);
                }
            }
            room.bends[column + COLUMN_MOST] = room.bestBend();
        }
        return room.bendsMade();
    }

    // ---- traces

    public int mark(int trace, int number, int x, int y) {
        if (!isTrace(trace) || !isNumber(number) || !isFlatPlace(x) || !isFlatPlace(y)) {
            return BAD;
        }
        boolean there = traces[trace].has[number];
        traces[trace].put(number, x, y);
        return there ? 0 : 1;
    }

    public int rub(int trace, int number) {
        if (!isTrace(trace) || !isNumber(number)) {
            return BAD;
        }
        boolean there = traces[trace].has[number];
        traces[trace].has[number] = false;
        return there ? 1 : 0;
    }

    public int draw(int trace) {
        if (!isTrace(trace)) {
            return BAD;
        }
        Trace drawn = traces[trace];
        drawn.clear();
        for (int i = 0; i < thingsMade; i++) {
            image.take(room, things[i]);
            if (room.shows(image)) {
                drawn.put(i, image.x, image.y);
            }
        }
        return drawn.marksMade();
    }

    public int marked(int trace, int number, int what) {
        if (!isTrace(trace) || !isNumber(number) || !within(what, 0, 1)) {
            return BAD;
        }
        Trace t = traces[trace];
        if (!t.has[number]) {
            return NONE;
        }
        return what == 0 ? t.x[number] : t.y[number];
    }

    public int joined(int a, int b, int what) {
        if (!isTrace(a) || !isTrace(b) || !within(what, 0, 3)) {
            return BAD;
        }
        joint.take(traces[a], traces[b]);
        if (what == 0) {
            return joint.common();
        }
        if (joint.common() == 0) {
            return NONE;
        }
        if (what == 3) {
            return joint.misfit();
        }
        return what == 1 ? joint.acrossShift() : joint.upShift();
    }

    public int round(int n, int what) {
        if (!within(n, 2, TRACES) || !within(what, 0, 2)) {
            return BAD;
        }
        if (!ring.take(traces, n, joint)) {
            return NONE;
        }
        if (what == 2) {
            return ring.misfit;
        }
        return what == 0 ? ring.across[n] : ring.up[n];
    }

    public int around(int n, int number, int what) {
        if (!within(n, 2, TRACES) || !isNumber(number) || !within(what, 0, 1)) {
            return BAD;
        }
        if (!ring.take(traces, n, joint)) {
            return NONE;
        }
        int many = 0;
        int sum = 0;
        for (int k = 0; k < n; k++) {
            Trace t = traces[k];
            if (t.has[number]) {
                many++;
                sum += what == 0 ? t.x[number] + closed(ring.across, k, n) : t.y[number] + closed(ring.up, k, n);
            }
        }
        return many == 0 ? NONE : by(sum, many);
    }

    // ---- two rooms, studios

    public int stand(int room, int u, int v, int w, int d) {
        if (!within(room, 0, ROOMS - 1) || w < 0 || !isStand(u, v, w, d)) {
            return BAD;
        }
        stands[room].put(u, v, w, d);
        return 1;
    }

    public long far(int p, int q, int what) {
        if (!isFlatPlace(p) || !isFlatPlace(q) || !within(what, 0, 1)) {
            return BAD;
        }
        if (!sight.take(stands[0], stands[1], p, q)) {
            return NONE;
        }
        return what == 0 ? sight.upper : sight.lower;
    }

    public long high(int p, int q, int r) {
        if (!isFlatPlace(p) || !isFlatPlace(q) || !isFlatPlace(r)) {
            return BAD;
        }
        if (!sight.take(stands[0], stands[1], p, q)) {
            return NONE;
        }
        return sight.highOf(stands[0], r);
    }

    public long span(int p, int q, int e, int what) {
        if (!isFlatPlace(p) || !isFlatPlace(q) || !within(e, 0, DOUBT_MOST) || !within(what, 0, 1)) {
            return BAD;
        }
        if (!sight.take(stands[0], stands[1], p, q)) {
            return NONE;
        }
        long least = by(sight.upper, sight.lower);
        long greatest = least;
        for (int i = -1; i <= 1; i++) {
            for (int j = -1; j <= 1; j++) {
                if (!sight.take(stands[0], stands[1], p + i * e, q + j * e)) {
                    return NONE;
                }
                long distance = by(sight.upper, sight.lower);
                least = Math.min(least, distance);
                greatest = Math.max(greatest, distance);
            }
        }
        return what == 0 ? least : greatest;
    }

    public int studio(int trace, int sheet, int i, int n, int k, int e, int what) {
        if (!areStudiosTold(trace, sheet, n, e) || !within(k, 0, n - 1) || !within(what, 0, 1)) {
            return BAD;
        }
        int refusal = studiosRefusal(sheet, i, n);
        if (refusal != 0) {
            return refusal;
        }
        readStudio(sheet, i, k);
        if (what == 0) {
            return clean(painterMisfit(traces[trace]));
        }
        return clean(hasPainterMade(traces[trace], e) ? 1 : 0);
    }

    public int studios(int trace, int sheet, int i, int n, int e, int what) {
        if (!areStudiosTold(trace, sheet, n, e) || !within(what, 0, 2)) {
            return BAD;
        }
        int refusal = studiosRefusal(sheet, i, n);
        if (refusal != 0) {
            return refusal;
        }
        switch (what) {
            case 0: return clean(bestStudio(traces[trace], sheet, i, n));
            case 1: return clean(studiosThatMade(traces[trace], sheet, i, n, e));
            default: return clean(marksOfNoStudio(traces[trace], sheet, i, n, e));
        }
    }

    // ---- the sun

    public int spot(int day, int hour, int h, int what) {
        if (!within(day, 0, YEAR - 1) || !within(hour, -HOUR_MOST, HOUR_MOST)) {
            return BAD;
        }
        if (!within(h, 1, HOLE_MOST) || !within(what, 0, 1)) {
            return BAD;
        }
        return what == 0 ? spotAside(hour, h) : spotAhead(noonOf(day), hour, h);
    }

    public int days(int aside, int ahead, int h, int i) {
        if (!within(h, 1, HOLE_MOST)) {
            return BAD;
        }
        int many = 0;
        for (int day = 0; day < YEAR; day++) {
            int noon = noonOf(day);
            for (int hour = -HOUR_MOST; hour <= HOUR_MOST; hour++) {
                if (spotAside(hour, h) == aside && spotAhead(noon, hour, h) == ahead) {
                    if (many == i) {
                        return 100 * day + hour + 50;
                    }
                    many++;
                }
            }
        }
        return i == NONE ? many : NONE;
    }

    // ---- asked

    public int kind(int thing) {
        return isThing(thing) ? kindOf(thing) : BAD;
    }

    public int as(int thing, int kind) {
        if (!isThing(thing) || !within(kind, THING, LOST)) {
            return BAD;
        }
        int toldAs = kindOf(thing);
        boolean isOne = kind == THING || kind == toldAs || kind == SEEN && toldAs == SHARP;
        return isOne ? clean(things[thing].z) : found(KIND);
    }

    public int ask(int thing, int what) {
        if (!isThing(thing) || !within(what, 0, 1)) {
            return BAD;
        }
        int toldAs = kindOf(thing);
        bodies.face(things[thing].z, image.column, image.blur);
        return what == 0 ? bodies.size(toldAs) : bodies.sign(toldAs);
    }

    public int trace(int i) {
        return within(i, 0, bodies.many - 1) ? bodies.begun[i] : NONE;
    }

    public int count(int what) {
        switch (what) {
            case 0: return sheetsLaid();
            case 1: return thingsMade;
            case 2: return thingsToldAs(SEEN) + thingsToldAs(SHARP);
            case 3: return thingsToldAs(SHARP);
            case 4: return thingsToldAs(LOST);
            case 5: return marksOnPaper();
            case 6: return tracesMarked();
            case 7: return room.bendsMade();
            default: return BAD;
        }
    }

    public int status() {
        return lastFinding;
    }

    // ---- what is refused and what is found

    private int found(int finding) {
        lastFinding = finding;
        return FOUND - finding;
    }

    private int clean(int answer) {
        lastFinding = 0;
        return answer;
    }

    private static boolean within(int v, int least, int most) {
        return v >= least && v <= most;
    }

    private static boolean isSheet(int sheet) {
        return within(sheet, 0, SHEETS - 1);
    }

    private static boolean isTrace(int trace) {
        return within(trace, 0, TRACES - 1);
    }

    private static boolean isNumber(int number) {
        return within(number, 0, THINGS - 1);
    }

    private boolean isThing(int thing) {
        return within(thing, 0, thingsMade - 1);
    }

    private static boolean isFlatPlace(int v) {
        return within(v, -PLACE_MOST, PLACE_MOST);
    }

    private static boolean isPlace(int x, int y, int z) {
        return isFlatPlace(x) && isFlatPlace(y) && within(z, 1, Z_MOST);
    }

    private static boolean isStand(int u, int v, int w, int d) {
        return isFlatPlace(u) && isFlatPlace(v) && isFlatPlace(w) && within(d, DEPTH_LEAST, DEPTH_MOST);
    }

    // No divisor here is ever 0; it is looked at all the same, so that this can be seen in one place.
    private static int by(int a, int b) {
        return b == 0 ? 0 : a / b;
    }

    private static long by(long a, long b) {
        return b == 0 ? 0 : a / b;
    }

    // ---- what is counted

    private int kindOf(int thing) {
        image.take(room, things[thing]);
        if (!room.shows(image)) {
            return LOST;
        }
        return image.blur <= room.numbers[GRAIN] ? SHARP : SEEN;
    }

    private int thingsToldAs(int kind) {
        int many = 0;
        for (int i = 0; i < thingsMade; i++) {
            if (kindOf(i) == kind) {
                many++;
            }
        }
        return many;
    }

    private int sheetsLaid() {
        int many = 0;
        for (int i = 0; i < SHEETS; i++) {
            if (!sheets[i].isMissing()) {
                many++;
            }
        }
        return many;
    }

    private int marksOnPaper() {
        int many = 0;
        for (int i = 0; i < TRACES; i++) {
            many += traces[i].marksMade();
        }
        return many;
    }

    private int tracesMarked() {
        int many = 0;
        for (int i = 0; i < TRACES; i++) {
            if (traces[i].marksMade() > 0) {
                many++;
            }
        }
        return many;
    }

    private static int closed(int[] placed, int k, int n) {
        return placed[k] - by(placed[n] * k, n);
    }

    // ---- studios held to a painting

    private static boolean areStudiosTold(int trace, int sheet, int n, int e) {
        return isTrace(trace) && isSheet(sheet) && within(n, 1, STUDIOS_MOST) && within(e, 0, DOUBT_MOST);
    }

    /** What is answered where SHEET or ITEMS are not as STUDIOS must be, else 0, which is no refusal. */
    private int studiosRefusal(int sheet, int i, int n) {
        if (sheets[sheet].isMissing()) {
            return found(NULL);
        }
        if (!sheets[sheet].holds(i, n * STUDIO_ITEMS)) {
            return found(PLACE);
        }
        return areStudios(sheet, i, n) ? 0 : BAD;
    }

    private boolean areStudios(int sheet, int i, int n) {
        for (int k = 0; k < n; k++) {
            readStudio(sheet, i, k);
            if (!isStand(painter.u, painter.v, painter.w, painter.d)) {
                return false;
            }
        }
        return true;
    }

    private void readStudio(int sheet, int i, int k) {
        int[] items = sheets[sheet].items;
        int at = i + k * STUDIO_ITEMS;
        painter.put(items[at], items[at + 1], items[at + 2], items[at + 3]);
    }

    private int painterMisfit(Trace painting) {
        int misfit = 0;
        for (int i = 0; i < thingsMade; i++) {
            if (painting.has[i]) {
                misfit += painter.sees(things[i]) ? painterApart(painting, i) : NOT_PUT;
            }
        }
        return misfit;
    }

    private int painterApart(Trace painting, int i) {
        int across = Math.abs(painting.x[i] - painter.across(things[i]));
        int up = Math.abs(painting.y[i] - painter.up(things[i]));
        return Math.min(across, APART_MOST) + Math.min(up, APART_MOST);
    }

    private boolean isPainterNear(Trace painting, int i, int e) {
        return painter.sees(things[i])
            && Math.abs(painting.x[i] - painter.across(things[i])) <= e
            && Math.abs(painting.y[i] - painter.up(things[i])) <= e;
    }

    private boolean hasPainterMade(Trace painting, int e) {
        for (int i = 0; i < thingsMade; i++) {
            if (painting.has[i] && !isPainterNear(painting, i, e)) {
                return false;
            }
        }
        return true;
    }

    private int bestStudio(Trace painting, int sheet, int i, int n) {
        readStudio(sheet, i, 0);
        int best = 0;
        int least = painterMisfit(painting);
        for (int k = 1; k < n; k++) {
            readStudio(sheet, i, k);
            int misfit = painterMisfit(painting);
            if (misfit < least) {
                least = misfit;
                best = k;
            }
        }
        return best;
    }

    private int studiosThatMade(Trace painting, int sheet, int i, int n, int e) {
        int many = 0;
        for (int k = 0; k < n; k++) {
            readStudio(sheet, i, k);
            if (hasPainterMade(painting, e)) {
                many++;
            }
        }
        return many;
    }

    private int marksOfNoStudio(Trace painting, int sheet, int i, int n, int e) {
        int many = 0;
        for (int t = 0; t < thingsMade; t++) {
            boolean near = !painting.has[t];
            for (int k = 0; k < n && !near; k++) {
                readStudio(sheet, i, k);
                near = isPainterNear(painting, t, e);
            }
            if (!near) {
                many++;
            }
        }
        return many;
    }

    // ---- the sun's way

    private static int noonOf(int day) {
        int apart = Math.abs(day - LONGEST_DAY);
        int t = Math.min(apart, YEAR - apart);
        return 500 + by(1500 * t, 182);
    }

    private static int spotAside(int hour, int h) {
        return by(h * hour * 200, 1000);
    }

    private static int spotAhead(int noon, int hour, int h) {
        return by(h * (noon + 30 * hour * hour), 1000);
    }

    // ---- the parts

    /** A SHEET keeps its row of ITEMS even while it is missing, so that laying it anew makes nothing. */
    private static final class Sheet {
        private static final int MISSING = -1;
        private final int[] items = new int[ITEMS];
        private int lane = MISSING;
        private int length = 0;

        private boolean isMissing() {
            return lane == MISSING;
        }

        private void lay(int newLane, int n) {
            lane = newLane;
            length = n;
            for (int i = 0; i < ITEMS; i++) {
                items[i] = 0;
            }
        }

        private int lose() {
            int had = length;
            lane = MISSING;
            length = 0;
            return had;
        }

        private int write(int i, int v) {
            items[i] = lane == BYTES ? (byte) v : lane == SHORTS ? (short) v : v;
            return items[i];
        }

        // The length less n, not i and n added: these may be too great to add.
        private boolean holds(int i, int n) {
            return i >= 0 && n >= 0 && n <= length && i <= length - n;
        }
    }

    private static final class Thing {
        private int x, y, z = 1;

        private void put(int newX, int newY, int newZ) {
            x = newX;
            y = newY;
            z = newZ;
        }
    }

    private static final class Room {
        private final int[] numbers = {0, 10, 100, 0, 5, 160, 100};
        private final int[] bends = new int[COLUMNS];
        /** The BLURS of a COLUMN's THINGS, added for each BEND that it could have; bent() alone needs it. */
        private final int[] blurs = new int[2 * BEND_MOST + 1];

        private static int firstAt(int depth, Thing t) {
            return by(-t.x * depth, t.z);
        }

        private static int columnOf(int first) {
            int column = Math.floorDiv(first + 10, 20);
            return Math.max(-COLUMN_MOST, Math.min(COLUMN_MOST, column));
        }

        private static int columnAt(int depth, Thing t) {
            return columnOf(firstAt(depth, t));
        }

        private int reach(int depth, int column) {
            return Math.max(1, depth + bends[column + COLUMN_MOST]);
        }

        private int blurBy(int e, int z) {
            int focus = numbers[FOCUS];
            if (focus == 0) {
                return by(numbers[OPENING] * (z + e), z);
            }
            return by(numbers[OPENING] * Math.abs(e * (z - focus) - focus * z), focus * z);
        }

        private int blurAt(int depth, Thing t) {
            return blurBy(reach(depth, columnAt(depth, t)), t.z);
        }

        private int sharpestDepth(Thing t) {
            int best = DEPTH_LEAST;
            int least = blurAt(DEPTH_LEAST, t);
            // No BLUR is below 0, so a BLUR of 0 ends the search
            for (int depth = DEPTH_LEAST + 1; depth <= DEPTH_MOST && least > 0; depth++) {
                int blur = blurAt(depth, t);
                if (blur < least) {
                    least = blur;
                    best = depth;
                }
            }
            return best;
        }

        private void clearBlurs() {
            for (int i = 0; i < blurs.length; i++) {
                blurs[i] = 0;
            }
        }

        private void addBlurs(int z) {
            for (int bend = -BEND_MOST; bend <= BEND_MOST; bend++) {
                int e = Math.max(1, numbers[DEPTH] + bend);
                blurs[bend + BEND_MOST] += blurBy(e, z);
            }
        }

        // From 0 outwards, the lesser first: so the first of the least is the one that is told.
        private int bestBend() {
            int best = 0;
            for (int size = 1; size <= BEND_MOST; size++) {
                if (blurs[BEND_MOST - size] < blurs[BEND_MOST + best]) {
                    best = -size;
                }
                if (blurs[BEND_MOST + size] < blurs[BEND_MOST + best]) {
                    best = size;
                }
            }
            return best;
        }

        private boolean shows(Picture image) {
            return within(image.x, -numbers[WIDE], numbers[WIDE]) && within(image.y, -numbers[HIGH], numbers[HIGH]);
        }

        private int bendsMade() {
            int many = 0;
            for (int i = 0; i < COLUMNS; i++) {
                if (bends[i] != 0) {
                    many++;
                }
            }
            return many;
        }
    }

    /** PICTURE of the THING that was taken last: one object serves for all of them. */
    private static final class Picture {
        private int first, column, e, x, y, blur;

        private void take(Room room, Thing t) {
            int depth = room.numbers[DEPTH];
            first = Room.firstAt(depth, t);
            column = Room.columnOf(first);
            e = room.reach(depth, column);
            x = by(-t.x * e, t.z);
            y = by((room.numbers[MIRROR] == 1 ? t.y : -t.y) * e, t.z);
            blur = room.blurBy(e, t.z);
        }
    }

    private static final class Trace {
        private final boolean[] has = new boolean[THINGS];
        private final int[] x = new int[THINGS];
        private final int[] y = new int[THINGS];

        private void put(int number, int newX, int newY) {
            has[number] = true;
            x[number] = newX;
            y[number] = newY;
        }

        private void clear() {
            for (int i = 0; i < THINGS; i++) {
                has[i] = false;
            }
        }

        private int marksMade() {
            int many = 0;
            for (int i = 0; i < THINGS; i++) {
                if (has[i]) {
                    many++;
                }
            }
            return many;
        }
    }

    /** Numbers kept in order, since the least number from which they differ least is the lower middle one. */
    private static final class Row {
        private final int[] sorted = new int[THINGS];
        private int many = 0;

        private void insert(int v) {
            if (many >= THINGS) {
                return;
            }
            int at = many;
            while (at > 0 && sorted[at - 1] > v) {
                sorted[at] = sorted[at - 1];
                at--;
            }
            sorted[at] = v;
            many++;
        }

        private int middle() {
            return many == 0 ? 0 : sorted[(many - 1) / 2];
        }

        private int misfit() {
            int sum = 0;
            for (int i = 0; i < many; i++) {
                sum += Math.abs(sorted[i] - middle());
            }
            return sum;
        }
    }

    /** JOINED: two TRACES by the MARKS that both have. */
    private static final class Joint {
        private final Row across = new Row();
        private final Row up = new Row();

        private void take(Trace a, Trace b) {
            across.many = 0;
            up.many = 0;
            for (int i = 0; i < THINGS; i++) {
                if (a.has[i] && b.has[i]) {
                    across.insert(a.x[i] - b.x[i]);
                    up.insert(a.y[i] - b.y[i]);
                }
            }
        }

        private int common() {
            return across.many;
        }

        private int acrossShift() {
            return across.middle();
        }

        private int upShift() {
            return up.middle();
        }

        private int misfit() {
            return across.misfit() + up.misfit();
        }
    }

    /** A ROUND: STANDS of each TRACE, and behind the last one the ERROR. */
    private static final class Ring {
        private final int[] across = new int[TRACES + 1];
        private final int[] up = new int[TRACES + 1];
        private int misfit = 0;

        private boolean take(Trace[] traces, int n, Joint joint) {
            misfit = 0;
            for (int k = 0; k < n; k++) {
                joint.take(traces[k], traces[k + 1 < n ? k + 1 : 0]);
                if (joint.common() == 0) {
                    return false;
                }
                across[k + 1] = across[k] + joint.acrossShift();
                up[k + 1] = up[k] + joint.upShift();
                misfit += joint.misfit();
            }
            return true;
        }
    }

    /** Where a ROOM of the TWO, or a STUDIO, is, and how deep. */
    private static final class Stand {
        private int u, v, w, d = 100;

        private void put(int newU, int newV, int newW, int newD) {
            u = newU;
            v = newV;
            w = newW;
            d = newD;
        }

        private boolean sees(Thing t) {
            return t.z > w;
        }

        private int across(Thing t) {
            return by(-(t.x - u) * d, t.z - w);
        }

        private int up(Thing t) {
            return by(-(t.y - v) * d, t.z - w);
        }
    }

    /** FAR, as UPPER by LOWER. */
    private static final class Sight {
        private long upper, lower;

        /** False where it is NONE. */
        private boolean take(Stand a, Stand b, long p, long q) {
            lower = q * a.d - p * b.d;
            upper = (long) (b.u - a.u) * a.d * b.d - p * a.w * b.d + q * b.w * a.d;
            if (lower < 0) {
                lower = -lower;
                upper = -upper;
            }
            return lower != 0 && upper > lower * Math.max(a.w, b.w);
        }

        private long highOf(Stand a, long r) {
            return by(a.v * lower * a.d - r * (upper - a.w * lower), lower * a.d);
        }
    }

    /**
     * ASKS. A BODY that asks SIZE or MARK of the same THING goes straight to that KIND's BODY:
     * the THING is of the same KIND still, and so no method calls itself by a way round.
     */
    private static final class Bodies {
        private final int[] begun = new int[16];
        private int many = 0;
        private int z, column, blur;

        private void face(int newZ, int newColumn, int newBlur) {
            many = 0;
            z = newZ;
            column = newColumn;
            blur = newBlur;
        }

        private void begin(int body) {
            if (many < begun.length) {
                begun[many] = body;
                many++;
            }
        }

        private int size(int kind) {
            switch (kind) {
                case SEEN: return sizeOfSeen();
                case SHARP: return sizeOfSharp();
                case LOST: return sizeOfLost();
                default: return sizeLent();
            }
        }

        private int sign(int kind) {
            switch (kind) {
                case SEEN: return signOfSeen();
                case SHARP: return signOfSharp();
                case LOST: return signOfLost();
                default: return signLent();
            }
        }

        private int sizeLent() {
            begin(10);
            return z;
        }

        private int sizeOfSeen() {
            begin(11);
            return sizeLent() + blur;
        }

        private int sizeOfSharp() {
            begin(12);
            return 2 * sizeOfSeen();
        }

        private int sizeOfLost() {
            begin(13);
            int lent = sizeLent();
            return lent - signOfLost();
        }

        private int signLent() {
            begin(20);
            return column;
        }

        private int signOfSeen() {
            begin(21);
            return signLent() + 100;
        }

        private int signOfSharp() {
            begin(22);
            int seen = signOfSeen();
            return seen + sizeOfSharp();
        }

        private int signOfLost() {
            begin(23);
            return signLent() + 1000;
        }
    }
}
