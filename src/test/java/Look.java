import java.util.ArrayList;
import java.util.List;

/**
 * All that the face can show of an object of a story, but for status(). To look at some of it changes the object
 * (THE TRACE, SHEETS, ROOMS), so each part is looked at on an object of its own.
 */
final class Look {
    private static final int ITEMS_AT_ONCE = 40;
    /** From these four MISFITS, each 500 at most, an ITEM of -1000 to 1000 is known. */
    private static final int[] MARKS = {-1000, -500, 500, 1000};

    private final Story story;
    private final List<String> seen = new ArrayList<>();

    private Look(Story story) {
        this.story = story;
    }

    static List<String> at(Story story) {
        Look look = new Look(story);
        look.traceAndRoomAndThings();
        look.marks();
        look.rooms();
        look.sheets();
        return look.seen;
    }

    private void traceAndRoomAndThings() {
        Twin t = story.twin();
        for (int i = -1; i <= 16; i++) {
            t.show(seen, "trace", i);
        }
        for (int i = 0; i < 24; i++) {
            t.show(seen, "told", i);
            for (int what = 0; what < 3; what++) {
                t.show(seen, "picture", i, what);
            }
        }
        for (int what = 0; what < 8; what++) {
            t.show(seen, "count", what);
        }
    }

    private void marks() {
        Twin t = story.twin();
        for (int trace = 0; trace < 8; trace++) {
            for (int number = 0; number < 24; number++) {
                t.show(seen, "marked", trace, number, 0);
                t.show(seen, "marked", trace, number, 1);
            }
        }
    }

    /** Both as they are, then each beside another one that is known. */
    private void rooms() {
        Twin t = story.twin();
        sights(t);
        for (int room = 0; room < 2; room++) {
            t = story.twin();
            int[] places = {-1000, 1000};
            for (int u : places) {
                t.call("stand", 1 - room, u, 0, 0, 100);
                sights(t);
            }
        }
    }

    private void sights(Twin t) {
        int[][] places = {{-1, 1}, {1, -1}, {-20, 41}, {43, -19}, {0, 3}, {3, 0}, {5, 6}};
        for (int[] p : places) {
            t.show(seen, "far", p[0], p[1], 0);
            t.show(seen, "far", p[0], p[1], 1);
            t.show(seen, "high", p[0], p[1], 0);
            t.show(seen, "high", p[0], p[1], 700);
        }
    }

    private void sheets() {
        Twin t = story.twin();
        for (int sheet = 0; sheet < 8; sheet++) {
            long items = t.call("drop", sheet);
            seen.add("sheet " + sheet + " is dropped: " + items);
            for (int i = 0; i < items; i += ITEMS_AT_ONCE) {
                items(sheet, i, (int) Math.min(items, i + ITEMS_AT_ONCE));
            }
            if (items == 0) {
                items(sheet, 0, 0);
            }
        }
    }

    /** Each ITEM comes to another SHEET of the same LANE, as the u of a STUDIO. */
    private void items(int sheet, int from, int to) {
        Twin t = story.twin();
        int other = sheet == 0 ? 1 : 0;
        int lane = laneOf(t, sheet, other);
        seen.add("sheet " + sheet + " has lane " + lane);
        t.call("sheet", other, lane, 4);
        t.call("set", other, 3, 100);
        if (from < to) {
            hangMarks(t);
        }
        for (int i = from; i < to; i++) {
            t.call("copy", sheet, i, other, 0, 1);
            StringBuilder misfits = new StringBuilder("item " + i + " of sheet " + sheet + " is known by");
            for (int trace = 0; trace < MARKS.length; trace++) {
                misfits.append(' ').append(t.call("studio", trace, other, 0, 1, 0, 0, 0));
            }
            seen.add(misfits.toString());
        }
    }

    private static int laneOf(Twin t, int sheet, int other) {
        for (int lane = 0; lane < 3; lane++) {
            t.call("sheet", other, lane, 4);
            if (t.call("copy", sheet, 0, other, 0, 0) == 0) {
                return lane;
            }
        }
        return -1;
    }

    /** One MARK alone on each of the TRACES, of a THING that is put at X = u, Y = 0. */
    private static void hangMarks(Twin t) {
        if (t.call("move", 0, 0, 0, 100) == Check.BAD) {
            t.call("thing", 0, 0, 100);
        }
        for (int trace = 0; trace < MARKS.length; trace++) {
            for (int number = 1; number < 24; number++) {
                t.call("rub", trace, number);
            }
            t.call("mark", trace, 0, MARKS[trace], 0);
        }
    }
}
