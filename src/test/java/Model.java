import java.util.ArrayList;
import java.util.List;
import java.util.TreeMap;

/**
 * The document once more, in its plainest form and with no thought of cost, for ModelTest to hold LensTable to:
 * what is least is sought among all there is, what is divided is divided as exact numbers.
 */
final class Model {
    private static final int NONE = -1000000, BAD = -1000001, FULL = -1000003;

    private record Place(int x, int y, int z) { }

    private record Laid(int lane, int[] items) { }

    private record Standing(int u, int v, int w, int d) { }

    private final Laid[] sheets = new Laid[8];
    private final int[] numbers = {0, 10, 100, 0, 5, 160, 100};
    private final TreeMap<Integer, Integer> bends = new TreeMap<>();
    private final List<Place> things = new ArrayList<>();
    private final List<TreeMap<Integer, int[]>> traces = new ArrayList<>();
    private final Standing[] rooms = {new Standing(0, 0, 0, 100), new Standing(0, 0, 0, 100)};
    private List<Integer> begun = new ArrayList<>();
    private int status = 0;

    Model() {
        for (int column = -8; column <= 8; column++) {
            bends.put(column, 0);
        }
        for (int i = 0; i < 8; i++) {
            traces.add(new TreeMap<>());
        }
    }

    private static boolean in(int v, int least, int most) {
        return least <= v && v <= most;
    }

    private static long cut(long a, long b) {
        long size = Math.abs(a) / Math.abs(b);
        return (a < 0) == (b < 0) ? size : -size;
    }

    private int finding(int number) {
        status = number;
        return -1000010 - number;
    }

    private int fine(int answer) {
        status = 0;
        return answer;
    }

    int sheet(int sheet, int lane, int n) {
        if (!in(sheet, 0, 7) || !in(lane, 0, 2) || n > 80) return BAD;
        if (n < 0) return finding(4);
        sheets[sheet] = new Laid(lane, new int[n]);
        return fine(n);
    }

    int set(int sheet, int i, int v) {
        if (!in(sheet, 0, 7)) return BAD;
        if (sheets[sheet] == null) return finding(1);
        if (!in(i, 0, sheets[sheet].items.length - 1)) return finding(2);
        int bits = 8 << sheets[sheet].lane;
        int kept = v << (32 - bits) >> (32 - bits);
        sheets[sheet].items[i] = kept;
        return fine(kept);
    }

    int copy(int a, int i, int b, int j, int n) {
        if (!in(a, 0, 7) || !in(b, 0, 7)) return BAD;
        if (sheets[a] == null || sheets[b] == null) return finding(1);
        if (sheets[a].lane != sheets[b].lane) return finding(5);
        if (i < 0 || j < 0 || n < 0) return finding(2);
        if ((long) i + n > sheets[a].items.length || (long) j + n > sheets[b].items.length) return finding(2);
        int[] ahead = sheets[a].items.clone();
        for (int k = 0; k < n; k++) {
            sheets[b].items[j + k] = ahead[i + k];
        }
        return fine(n);
    }

    int drop(int sheet) {
        if (!in(sheet, 0, 7)) return BAD;
        if (sheets[sheet] == null) return finding(1);
        int had = sheets[sheet].items.length;
        sheets[sheet] = null;
        return fine(had);
    }

    int room(int which, int v) {
        if (!in(which, 0, 6)) return BAD;
        int least = which == 1 || which == 2 || which > 4 ? 1 : 0;
        int most = new int[] {500, 100, 1000, 1, 50, 400, 400}[which];
        if (!in(v, least, most)) return BAD;
        int was = numbers[which];
        numbers[which] = v;
        return was;
    }

    int bend(int column, int v) {
        return in(column, -8, 8) && in(v, -50, 50) ? bends.put(column, v) : BAD;
    }

    int told(int which) {
        if (!in(which, 0, 23)) return BAD;
        return which <= 6 ? numbers[which] : bends.get(which - 15);
    }

    private static boolean isPlace(int x, int y, int z) {
        return in(x, -1000, 1000) && in(y, -1000, 1000) && in(z, 1, 5000);
    }

    private boolean isThing(int thing) {
        return in(thing, 0, things.size() - 1);
    }

    int thing(int x, int y, int z) {
        if (!isPlace(x, y, z)) return BAD;
        if (things.size() == 24) return FULL;
        things.add(new Place(x, y, z));
        return things.size() - 1;
    }

    int move(int thing, int x, int y, int z) {
        if (!isThing(thing) || !isPlace(x, y, z)) return BAD;
        things.set(thing, new Place(x, y, z));
        return 1;
    }

    private long blur(long z, long e) {
        long opening = numbers[1];
        long focus = numbers[0];
        if (focus == 0) return cut(opening * (z + e), z);
        return cut(opening * Math.abs(e * (z - focus) - focus * z), focus * z);
    }

    private long[] pictureOf(Place p, int depth) {
        long first = cut(-(long) p.x * depth, p.z);
        long column = (long) Math.floor((first + 10) / 20.0);
        column = column < -8 ? -8 : column > 8 ? 8 : column;
        long e = depth + bends.get((int) column);
        e = e < 1 ? 1 : e;
        long x = cut(-p.x * e, p.z);
        long y = cut(-p.y * e, p.z);
        if (numbers[3] == 1) y = -y;
        return new long[] {p.x, p.y, p.z, first, column, e, x, y, blur(p.z, e)};
    }

    private long[] pictureOf(int thing) {
        return pictureOf(things.get(thing), numbers[2]);
    }

    int picture(int thing, int what) {
        return isThing(thing) && in(what, 0, 8) ? (int) pictureOf(thing)[what] : BAD;
    }

    int focused(int thing, int what) {
        if (!isThing(thing) || !in(what, 0, 1)) return BAD;
        long least = Long.MAX_VALUE;
        int best = 0;
        for (int depth = 1000; depth >= 1; depth--) {
            long b = pictureOf(things.get(thing), depth)[8];
            if (b <= least) {
                least = b;
                best = depth;
            }
        }
        return what == 0 ? best : (int) least;
    }

    private long blursAdded(int column, int bend) {
        long sum = 0;
        for (int i = 0; i < things.size(); i++) {
            if (pictureOf(i)[4] == column) {
                sum += blur(things.get(i).z, Math.max(1, numbers[2] + bend));
            }
        }
        return sum;
    }

    int bent() {
        TreeMap<Integer, Integer> made = new TreeMap<>();
        for (int column = -8; column <= 8; column++) {
            int best = -50;
            for (int bend = -49; bend <= 50; bend++) {
                long one = blursAdded(column, bend);
                long other = blursAdded(column, best);
                if (one < other || one == other && Math.abs(bend) < Math.abs(best)) best = bend;
            }
            made.put(column, best);
        }
        bends.putAll(made);
        return count(7);
    }

    private static boolean isMark(int trace, int number) {
        return in(trace, 0, 7) && in(number, 0, 23);
    }

    int mark(int trace, int number, int x, int y) {
        if (!isMark(trace, number) || !in(x, -1000, 1000) || !in(y, -1000, 1000)) return BAD;
        return traces.get(trace).put(number, new int[] {x, y}) == null ? 1 : 0;
    }

    int rub(int trace, int number) {
        if (!isMark(trace, number)) return BAD;
        return traces.get(trace).remove(number) == null ? 0 : 1;
    }

    int draw(int trace) {
        if (!in(trace, 0, 7)) return BAD;
        TreeMap<Integer, int[]> drawn = new TreeMap<>();
        for (int i = 0; i < things.size(); i++) {
            long[] p = pictureOf(i);
            if (kind(i) != 3) drawn.put(i, new int[] {(int) p[6], (int) p[7]});
        }
        traces.set(trace, drawn);
        return drawn.size();
    }

    int marked(int trace, int number, int what) {
        if (!isMark(trace, number) || !in(what, 0, 1)) return BAD;
        int[] mark = traces.get(trace).get(number);
        return mark == null ? NONE : mark[what];
    }

    /** How many, the shift in x, in y, MISFIT; the shift is sought among all that there can be. */
    private int[] join(int a, int b) {
        List<int[]> apart = new ArrayList<>();
        for (int number : traces.get(a).keySet()) {
            int[] other = traces.get(b).get(number);
            if (other != null) {
                int[] one = traces.get(a).get(number);
                apart.add(new int[] {one[0] - other[0], one[1] - other[1]});
            }
        }
        int[] answer = {apart.size(), 0, 0, 0};
        for (int axis = 0; axis < 2; axis++) {
            int least = Integer.MAX_VALUE;
            for (int shift = -2000; shift <= 2000; shift++) {
                int sum = 0;
                for (int[] d : apart) {
                    sum += Math.abs(d[axis] - shift);
                }
                if (sum < least) {
                    least = sum;
                    answer[1 + axis] = shift;
                }
            }
            answer[3] += least;
        }
        return answer;
    }

    int joined(int a, int b, int what) {
        if (!in(a, 0, 7) || !in(b, 0, 7) || !in(what, 0, 3)) return BAD;
        int[] j = join(a, b);
        return what > 0 && j[0] == 0 ? NONE : j[what];
    }

    /** STANDS in x and y of 0 .. n, and MISFIT in [n + 1][0]; null: two have no MARK in common. */
    private int[][] ring(int n) {
        int[][] stands = new int[n + 2][2];
        for (int k = 0; k < n; k++) {
            int[] j = join(k, (k + 1) % n);
            if (j[0] == 0) return null;
            stands[k + 1][0] = stands[k][0] + j[1];
            stands[k + 1][1] = stands[k][1] + j[2];
            stands[n + 1][0] += j[3];
        }
        return stands;
    }

    int round(int n, int what) {
        if (!in(n, 2, 8) || !in(what, 0, 2)) return BAD;
        int[][] stands = ring(n);
        if (stands == null) return NONE;
        return what == 2 ? stands[n + 1][0] : stands[n][what];
    }

    int around(int n, int number, int what) {
        if (!in(n, 2, 8) || !in(number, 0, 23) || !in(what, 0, 1)) return BAD;
        int[][] stands = ring(n);
        if (stands == null) return NONE;
        long sum = 0;
        int many = 0;
        for (int k = 0; k < n; k++) {
            int[] mark = traces.get(k).get(number);
            if (mark != null) {
                long closed = stands[k][what] - cut((long) stands[n][what] * k, n);
                sum += mark[what] + closed;
                many++;
            }
        }
        return many == 0 ? NONE : (int) cut(sum, many);
    }

    private static boolean isStanding(Standing s, int leastW) {
        return in(s.u, -1000, 1000) && in(s.v, -1000, 1000) && in(s.w, leastW, 1000) && in(s.d, 1, 1000);
    }

    int stand(int room, int u, int v, int w, int d) {
        Standing s = new Standing(u, v, w, d);
        if (!in(room, 0, 1) || !isStanding(s, 0)) return BAD;
        rooms[room] = s;
        return 1;
    }

    /** UPPER, LOWER; null: NONE. */
    private long[] farOf(long p, long q) {
        Standing a = rooms[0];
        Standing b = rooms[1];
        long lower = q * a.d - p * b.d;
        long upper = (long) (b.u - a.u) * a.d * b.d - p * a.w * b.d + q * b.w * a.d;
        if (lower < 0) {
            lower = -lower;
            upper = -upper;
        }
        boolean ahead = upper > lower * a.w && upper > lower * b.w;
        return lower == 0 || !ahead ? null : new long[] {upper, lower};
    }

    private static boolean isSeenAt(int... places) {
        for (int p : places) {
            if (!in(p, -1000, 1000)) return false;
        }
        return true;
    }

    long far(int p, int q, int what) {
        if (!isSeenAt(p, q) || !in(what, 0, 1)) return BAD;
        long[] f = farOf(p, q);
        return f == null ? NONE : f[what];
    }

    long high(int p, int q, int r) {
        if (!isSeenAt(p, q, r)) return BAD;
        long[] f = farOf(p, q);
        if (f == null) return NONE;
        Standing a = rooms[0];
        return cut(a.v * f[1] * a.d - r * (f[0] - a.w * f[1]), f[1] * a.d);
    }

    long span(int p, int q, int e, int what) {
        if (!isSeenAt(p, q) || !in(e, 0, 20) || !in(what, 0, 1)) return BAD;
        List<Long> nine = new ArrayList<>();
        for (int a : new int[] {p - e, p, p + e}) {
            for (int b : new int[] {q - e, q, q + e}) {
                long[] f = farOf(a, b);
                if (f == null) return NONE;
                nine.add(cut(f[0], f[1]));
            }
        }
        nine.sort(null);
        return nine.get(what == 0 ? 0 : 8);
    }

    /** How far x is from X, y from Y of a MARK; null: NOT. */
    private long[] apart(Standing s, Place p, int[] mark) {
        if (p.z <= s.w) return null;
        long x = cut(-(long) (p.x - s.u) * s.d, p.z - s.w);
        long y = cut(-(long) (p.y - s.v) * s.d, p.z - s.w);
        return new long[] {Math.abs(mark[0] - x), Math.abs(mark[1] - y)};
    }

    private List<long[]> apartOfAll(Standing s, int trace) {
        List<long[]> all = new ArrayList<>();
        for (int number : traces.get(trace).keySet()) {
            if (number < things.size()) all.add(apart(s, things.get(number), traces.get(trace).get(number)));
        }
        return all;
    }

    private static boolean near(long[] apart, int e) {
        return apart != null && apart[0] <= e && apart[1] <= e;
    }

    private int misfit(Standing s, int trace) {
        int sum = 0;
        for (long[] a : apartOfAll(s, trace)) {
            sum += a == null ? 1000 : (int) (Math.min(500, a[0]) + Math.min(500, a[1]));
        }
        return sum;
    }

    private int made(Standing s, int trace, int e) {
        for (long[] a : apartOfAll(s, trace)) {
            if (!near(a, e)) return 0;
        }
        return 1;
    }

    private Standing[] studiosOf(int sheet, int i, int n) {
        Standing[] all = new Standing[n];
        int[] items = sheets[sheet].items;
        for (int k = 0; k < n; k++) {
            int at = i + 4 * k;
            all[k] = new Standing(items[at], items[at + 1], items[at + 2], items[at + 3]);
            if (!isStanding(all[k], -1000)) return null;
        }
        return all;
    }

    int studio(int trace, int sheet, int i, int n, int k, int e, int what) {
        if (!in(trace, 0, 7) || !in(sheet, 0, 7) || !in(n, 1, 20) || !in(k, 0, n - 1) || !in(e, 0, 20) || !in(what, 0, 1)) return BAD;
        if (sheets[sheet] == null) return finding(1);
        if (i < 0 || (long) i + 4 * n > sheets[sheet].items.length) return finding(2);
        Standing[] all = studiosOf(sheet, i, n);
        if (all == null) return BAD;
        return fine(what == 0 ? misfit(all[k], trace) : made(all[k], trace, e));
    }

    int studios(int trace, int sheet, int i, int n, int e, int what) {
        if (!in(trace, 0, 7) || !in(sheet, 0, 7) || !in(n, 1, 20) || !in(e, 0, 20) || !in(what, 0, 2)) return BAD;
        if (sheets[sheet] == null) return finding(1);
        if (i < 0 || (long) i + 4 * n > sheets[sheet].items.length) return finding(2);
        Standing[] all = studiosOf(sheet, i, n);
        if (all == null) return BAD;
        int best = n - 1;
        int makers = 0;
        boolean[] near = new boolean[24];
        for (int k = n - 1; k >= 0; k--) {
            if (misfit(all[k], trace) <= misfit(all[best], trace)) best = k;
            makers += made(all[k], trace, e);
            List<long[]> apart = apartOfAll(all[k], trace);
            for (int m = 0; m < apart.size(); m++) {
                near[m] |= near(apart.get(m), e);
            }
        }
        int ofNone = 0;
        for (int m = 0; m < apartOfAll(all[0], trace).size(); m++) {
            ofNone += near[m] ? 0 : 1;
        }
        return fine(what == 0 ? best : what == 1 ? makers : ofNone);
    }

    private static int[] spotOf(int day, int hour, int h) {
        int t = 365;
        for (int year = -1; year <= 1; year++) {
            t = Math.min(t, Math.abs(day - 172 + 365 * year));
        }
        long noon = 500 + cut(1500L * t, 182);
        return new int[] {(int) cut((long) h * hour * 200, 1000), (int) cut(h * (noon + 30L * hour * hour), 1000)};
    }

    int spot(int day, int hour, int h, int what) {
        if (!in(day, 0, 364) || !in(hour, -6, 6) || !in(h, 1, 1000) || !in(what, 0, 1)) return BAD;
        return spotOf(day, hour, h)[what];
    }

    int days(int aside, int ahead, int h, int i) {
        if (!in(h, 1, 1000)) return BAD;
        List<Integer> all = new ArrayList<>();
        for (int day = 0; day < 365; day++) {
            for (int hour = -6; hour <= 6; hour++) {
                int[] s = spotOf(day, hour, h);
                if (s[0] == aside && s[1] == ahead) all.add(100 * day + hour + 50);
            }
        }
        if (i == NONE) return all.size();
        return in(i, 0, all.size() - 1) ? all.get(i) : NONE;
    }

    int kind(int thing) {
        if (!isThing(thing)) return BAD;
        long[] p = pictureOf(thing);
        boolean seen = Math.abs(p[6]) <= numbers[5] && Math.abs(p[7]) <= numbers[6];
        return !seen ? 3 : p[8] <= numbers[4] ? 2 : 1;
    }

    int as(int thing, int kind) {
        if (!isThing(thing) || !in(kind, 0, 3)) return BAD;
        int[][] kindsOf = {{}, {0, 1}, {0, 1, 2}, {0, 3}};
        for (int one : kindsOf[kind(thing)]) {
            if (one == kind) return fine(things.get(thing).z);
        }
        return finding(3);
    }

    private long body(int number, int thing) {
        begun.add(number);
        long[] p = pictureOf(thing);
        switch (number) {
            case 10: return p[2];
            case 11: return body(10, thing) + p[8];
            case 12: return 2 * body(11, thing);
            case 13: return body(10, thing) - body(20 + kind(thing), thing);
            case 20: return p[4];
            case 21: return body(20, thing) + 100;
            case 22: return body(21, thing) + body(10 + kind(thing), thing);
            default: return body(20, thing) + 1000;
        }
    }

    int ask(int thing, int what) {
        if (!isThing(thing) || !in(what, 0, 1)) return BAD;
        begun = new ArrayList<>();
        return (int) body(10 + 10 * what + kind(thing), thing);
    }

    int trace(int i) {
        return in(i, 0, Math.min(16, begun.size()) - 1) ? begun.get(i) : NONE;
    }

    int count(int what) {
        int[] kinds = new int[4];
        for (int i = 0; i < things.size(); i++) {
            kinds[kind(i)]++;
        }
        int laid = 0;
        int marks = 0;
        int withMarks = 0;
        for (int i = 0; i < 8; i++) {
            laid += sheets[i] == null ? 0 : 1;
            marks += traces.get(i).size();
            withMarks += traces.get(i).isEmpty() ? 0 : 1;
        }
        int made = 0;
        for (int bend : bends.values()) {
            made += bend == 0 ? 0 : 1;
        }
        int[] all = {laid, things.size(), kinds[1] + kinds[2], kinds[2], kinds[3], marks, withMarks, made};
        return in(what, 0, 7) ? all[what] : BAD;
    }

    int status() {
        return status;
    }
}
