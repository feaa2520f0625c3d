/** The boundaries that the document names of THE SUN: section 4, promises 27 and 28. */
public final class SunEdgesTest {
    private static final Check check = new Check("SunEdgesTest");
    private static final int MIN = Integer.MIN_VALUE, MAX = Integer.MAX_VALUE, NONE = -1000000;

    public static void main(String[] args) {
        promise27Day();
        promise27Hour();
        promise27Hole();
        promise27What();
        promise27NearerWayRound();
        promise27NoonCut();
        promise27SpotCut();
        promise28Hole();
        promise28HowMany();
        promise28NotSoMany();
        promise28AnySpot();
        promise28FirstAndLast();
        promise28ByDaysThenHours();
        check.end();
    }

    private static Edge edge(String sentence) {
        return new Edge(check, sentence);
    }

    private static void promise27Day() {
        edge("spot: BAD: day 0 to 364")
            .taken(1917, "spot", 0, 0, 1000, 1).bad("spot", -1, 0, 1000, 1).bad("spot", MIN, 0, 1000, 1)
            .taken(1925, "spot", 364, 0, 1000, 1).bad("spot", 365, 0, 1000, 1).bad("spot", MAX, 0, 1000, 1);
    }

    private static void promise27Hour() {
        edge("spot: BAD: hour -6 to 6")
            .taken(-1200, "spot", 172, -6, 1000, 0).taken(1580, "spot", 172, -6, 1000, 1)
            .bad("spot", 172, -7, 1000, 0).bad("spot", 172, MIN, 1000, 0)
            .taken(1200, "spot", 172, 6, 1000, 0).taken(1580, "spot", 172, 6, 1000, 1)
            .bad("spot", 172, 7, 1000, 0).bad("spot", 172, MAX, 1000, 0)
            .taken(0, "spot", 172, 0, 1000, 0).taken(500, "spot", 172, 0, 1000, 1).taken(530, "spot", 172, 1, 1000, 1);
    }

    private static void promise27Hole() {
        edge("spot: BAD: a hole h high (1 to 1000)")
            .taken(1, "spot", 172, 6, 1, 0).taken(1, "spot", 172, 6, 1, 1).bad("spot", 172, 6, 0, 0).bad("spot", 172, 6, -1, 0)
            .bad("spot", 172, 6, MIN, 0)
            .taken(1200, "spot", 172, 6, 1000, 0).bad("spot", 172, 6, 1001, 0).bad("spot", 172, 6, MAX, 0);
    }

    private static void promise27What() {
        edge("spot: BAD: what 0, 1")
            .taken(200, "spot", 172, 1, 1000, 0).bad("spot", 172, 1, 1000, -1).bad("spot", 172, 1, 1000, MIN)
            .taken(530, "spot", 172, 1, 1000, 1).bad("spot", 172, 1, 1000, 2).bad("spot", 172, 1, 1000, MAX);
    }

    /** By a hole of 1000 at noon the SPOT is as far ahead as NOON tells: 182 days are 1500, 181 are 1491. */
    private static void promise27NearerWayRound() {
        edge("t: how many days from day 172 it is, the nearer way round a year of 365")
            .taken(508, "spot", 171, 0, 1000, 1).taken(500, "spot", 172, 0, 1000, 1).taken(508, "spot", 173, 0, 1000, 1)
            .taken(1991, "spot", 353, 0, 1000, 1).taken(2000, "spot", 354, 0, 1000, 1).taken(2000, "spot", 355, 0, 1000, 1)
            .taken(1991, "spot", 356, 0, 1000, 1)
            // round the end of the year: 173 days from 364, 172 from 0, 171 from 1
            .taken(1925, "spot", 364, 0, 1000, 1).taken(1917, "spot", 0, 0, 1000, 1).taken(1909, "spot", 1, 0, 1000, 1)
            .taken(1925, "spot", 345, 0, 1000, 1).taken(1917, "spot", 344, 0, 1000, 1).taken(1909, "spot", 343, 0, 1000, 1);
    }

    /** 1500 t by 182 is 24.7 by 3 days, 74.2 by 9, 750 by 91. */
    private static void promise27NoonCut() {
        edge("NOON is 500 and 1500 t by 182, cut")
            .taken(524, "spot", 175, 0, 1000, 1).taken(524, "spot", 169, 0, 1000, 1).taken(574, "spot", 181, 0, 1000, 1)
            .taken(1250, "spot", 263, 0, 1000, 1).taken(1250, "spot", 81, 0, 1000, 1)
            .taken(1241, "spot", 262, 0, 1000, 1).taken(1258, "spot", 264, 0, 1000, 1);
    }

    private static void promise27SpotCut() {
        edge("THE SPOT is at h hour 200 by 1000 aside, cut")
            .taken(0, "spot", 172, 1, 4, 0).taken(1, "spot", 172, 1, 5, 0).taken(1, "spot", 172, 1, 9, 0).taken(2, "spot", 172, 1, 10, 0)
            .taken(0, "spot", 172, -1, 4, 0).taken(-1, "spot", 172, -1, 5, 0).taken(-1, "spot", 172, -1, 9, 0)
            .taken(-2, "spot", 172, -1, 10, 0);
        edge("THE SPOT is at h (NOON and 30 hour hour) by 1000 ahead, cut")
            .taken(0, "spot", 172, 0, 1, 1).taken(1, "spot", 172, 0, 2, 1).taken(1, "spot", 172, 0, 3, 1).taken(2, "spot", 172, 0, 4, 1)
            .taken(3080, "spot", 354, 6, 1000, 1).taken(3080, "spot", 355, -6, 1000, 1);
    }

    private static void promise28Hole() {
        edge("days: BAD: h (1 to 1000)")
            .taken(657, "days", 0, 0, 1, NONE).bad("days", 0, 0, 0, NONE).bad("days", 0, 0, -1, NONE).bad("days", 0, 0, MIN, NONE)
            .taken(1, "days", 0, 500, 1000, NONE).bad("days", 0, 500, 1001, NONE).bad("days", 0, 500, MAX, NONE)
            .bad("days", 0, 0, 0, 0).bad("days", 0, 0, 1001, -1).bad("days", MIN, MAX, 0, MAX);
    }

    private static void promise28HowMany() {
        edge("days: how many (i = NONE)")
            .taken(1, "days", 0, 500, 1000, NONE).taken(2, "days", 0, 508, 1000, NONE).taken(0, "days", 0, 499, 1000, NONE)
            .taken(0, "days", 0, 501, 1000, NONE).taken(2, "days", 0, 2000, 1000, NONE).taken(0, "days", 0, 2001, 1000, NONE)
            // one beside NONE is an i, and there are not so many
            .taken(Check.NONE, "days", 0, 500, 1000, NONE - 1).taken(Check.NONE, "days", 0, 500, 1000, NONE + 1);
    }

    private static void promise28NotSoMany() {
        edge("days: NONE: there are not so many")
            .taken(17250, "days", 0, 500, 1000, 0).taken(Check.NONE, "days", 0, 500, 1000, 1)
            .taken(17150, "days", 0, 508, 1000, 0).taken(17350, "days", 0, 508, 1000, 1).taken(Check.NONE, "days", 0, 508, 1000, 2)
            .taken(Check.NONE, "days", 0, 499, 1000, 0)
            .taken(23250, "days", 0, 0, 1, 656).taken(Check.NONE, "days", 0, 0, 1, 657)
            .taken(Check.NONE, "days", 0, 500, 1000, -1).taken(Check.NONE, "days", 0, 500, 1000, MIN)
            .taken(Check.NONE, "days", 0, 500, 1000, MAX);
    }

    private static void promise28AnySpot() {
        Edge e = edge("days: aside, ahead are any");
        int[] any = {MIN, -1201, 1201, 3081, MAX};
        for (int v : any) {
            e.taken(0, "days", v, 500, 1000, NONE).taken(Check.NONE, "days", v, 500, 1000, 0);
            e.taken(0, "days", 0, v, 1000, NONE).taken(Check.NONE, "days", 0, v, 1000, 0);
            e.taken(0, "days", v, v, 1000, NONE);
        }
        e.taken(2, "days", 1200, 3080, 1000, NONE).taken(2, "days", -1200, 3080, 1000, NONE);
    }

    /** Day 0 and hour -6 are told as 44, day 364 and hour 6 as 36456. */
    private static void promise28FirstAndLast() {
        edge("days: 100 times the day, and the hour and 50: the first of all")
            .taken(2, "days", -1200, 2997, 1000, NONE).taken(44, "days", -1200, 2997, 1000, 0).taken(34444, "days", -1200, 2997, 1000, 1);
        edge("days: 100 times the day, and the hour and 50: the last of all")
            .taken(2, "days", 1200, 3005, 1000, NONE).taken(34556, "days", 1200, 3005, 1000, 0).taken(36456, "days", 1200, 3005, 1000, 1)
            .taken(Check.NONE, "days", 1200, 3005, 1000, 2);
    }

    /** By a hole of 1 NOON and 30 hour hour are below 1000 there: by days 112 to 114 at noon alone, by 115 from -1 to 1. */
    private static void promise28ByDaysThenHours() {
        edge("DAYS: by days, then hours")
            .taken(11250, "days", 0, 0, 1, 0).taken(11350, "days", 0, 0, 1, 1).taken(11450, "days", 0, 0, 1, 2)
            .taken(11549, "days", 0, 0, 1, 3).taken(11550, "days", 0, 0, 1, 4).taken(11551, "days", 0, 0, 1, 5)
            .taken(11649, "days", 0, 0, 1, 6).taken(23250, "days", 0, 0, 1, 656);
        LensTable all = new LensTable();
        int before = -1;
        for (int i = 0; i < 657; i++) {
            if (i % 500 == 0) {
                all = new LensTable();
            }
            int told = all.days(0, 0, 1, i);
            check.due("days(0, 0, 1, " + i + ") is behind the one ahead of it", told > before);
            before = told;
        }
    }
}
