/** Promises 27 and 28. */
public final class SunTest {
    private static final Check check = new Check("SunTest");
    private static final int MIN = Integer.MIN_VALUE, MAX = Integer.MAX_VALUE, NONE = -1000000;

    public static void main(String[] args) {
        promise27Spot();
        promise27NearerWayRound();
        promise27Refused();
        promise28Days();
        promise28EverySpot();
        promise28Refused();
        check.end();
    }

    private static void dueSpot(int day, int hour, int h, int aside, int ahead) {
        LensTable t = new LensTable();
        check.due("aside by " + day + ", " + hour + ", " + h, t.spot(day, hour, h, 0), aside);
        check.due("ahead by " + day + ", " + hour + ", " + h, t.spot(day, hour, h, 1), ahead);
    }

    private static void promise27Spot() {
        dueSpot(172, 0, 1000, 0, 500);
        dueSpot(172, 0, 1, 0, 0);
        dueSpot(172, 6, 1000, 1200, 1580);
        dueSpot(172, -6, 1000, -1200, 1580);
        dueSpot(172, -1, 7, -1, 3);
        dueSpot(172, 1, 4, 0, 2);
        dueSpot(172, -1, 4, 0, 2);
        dueSpot(354, 0, 100, 0, 200);
        dueSpot(0, 0, 100, 0, 191);
        dueSpot(171, 3, 500, 300, 389);
        dueSpot(100, -6, 1, -1, 2);
    }

    private static void promise27NearerWayRound() {
        // 172 days: 1417; 173: 1425; 182: 1500
        dueSpot(0, 0, 1000, 0, 1917);
        dueSpot(364, 0, 1000, 0, 1925);
        dueSpot(354, 0, 1000, 0, 2000);
        dueSpot(355, 0, 1000, 0, 2000);
        dueSpot(353, 0, 1000, 0, 1991);
        dueSpot(356, 0, 1000, 0, 1991);
        dueSpot(171, 0, 1000, 0, 508);
        dueSpot(173, 0, 1000, 0, 508);
    }

    private static void promise27Refused() {
        LensTable t = new LensTable();
        int[][] bad = {{-1, 0, 1, 0}, {365, 0, 1, 0}, {0, -7, 1, 0}, {0, 7, 1, 0}, {0, 0, 0, 0}, {0, 0, 1001, 0}, {0, 0, 1, -1},
            {0, 0, 1, 2}, {MIN, 0, 1, 0}, {MAX, 0, 1, 0}, {0, MIN, 1, 0}, {0, MAX, 1, 0}, {0, 0, MIN, 0}, {0, 0, MAX, 0},
            {0, 0, 1, MIN}, {0, 0, 1, MAX}};
        for (int[] b : bad) {
            check.due("spot(" + b[0] + ", " + b[1] + ", " + b[2] + ", " + b[3] + ")", t.spot(b[0], b[1], b[2], b[3]), Check.BAD);
        }
    }

    private static void promise28Days() {
        LensTable t = new LensTable();
        check.due("how many", t.days(300, 389, 500, NONE), 2);
        check.due("the first", t.days(300, 389, 500, 0), 17153);
        check.due("the second", t.days(300, 389, 500, 1), 17353);
        check.due("no third", t.days(300, 389, 500, 2), Check.NONE);
        check.due("the hour below 0", t.days(-300, 389, 500, 0), 17147);
        check.due("none", t.days(1, 389, 500, NONE), 0);
        check.due("none", t.days(1, 389, 500, 0), Check.NONE);
        // by a hole of 1 the hours -4 to 4 are all at 0; behind 0 are NOON and 30 hour hour below 1000
        check.due("by days, then hours: how many", t.days(0, 0, 1, NONE), 657);
        check.due("by days, then hours", t.days(0, 0, 1, 0), 11250);
        check.due("by days, then hours", t.days(0, 0, 1, 1), 11350);
        check.due("the last", t.days(0, 0, 1, 656), 23250);
        check.due("none behind the last", t.days(0, 0, 1, 657), Check.NONE);
    }

    private static void promise28EverySpot() {
        LensTable t = new LensTable();
        for (int day = 0; day < 365; day += 52) {
            for (int hour = -6; hour <= 6; hour += 3) {
                int aside = t.spot(day, hour, 1000, 0);
                int ahead = t.spot(day, hour, 1000, 1);
                int many = t.days(aside, ahead, 1000, NONE);
                int other = (344 - day + 365) % 365;
                check.due("day " + day + " is there with the one across", many, day == other ? 1 : 2);
                check.due("the first of them", t.days(aside, ahead, 1000, 0), 100 * Math.min(day, other) + hour + 50);
                check.due("the last of them", t.days(aside, ahead, 1000, many - 1), 100 * Math.max(day, other) + hour + 50);
            }
        }
    }

    private static void promise28Refused() {
        LensTable t = new LensTable();
        int[] noHole = {0, -1, 1001, MIN, MAX};
        for (int h : noHole) {
            check.due("days by a hole of " + h, t.days(0, 0, h, NONE), Check.BAD);
        }
        int[] any = {MIN, MAX, -1};
        for (int v : any) {
            check.due("days of any aside", t.days(v, 50, 100, NONE), 0);
            check.due("days of any ahead", t.days(0, v, 100, NONE), 0);
            check.due("there is no " + v + "-th", t.days(0, 50, 100, v), Check.NONE);
        }
        check.due("no such many", t.days(0, 50, 100, NONE - 1), Check.NONE);
        check.due("no such many", t.days(0, 50, 100, NONE + 1), Check.NONE);
    }
}
