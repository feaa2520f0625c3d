import java.util.List;
import java.util.Set;

/**
 * A sentence of the document that names a boundary, and calls on either side of it. Each call is made on an object
 * of the same story, once as the story leaves status() and once with a FINDING ahead of it; each time its answer and
 * status() behind it are held to what is due, and where nothing may change the object is looked at from all sides.
 */
final class Edge {
    private static final Set<String> TELL_STATUS = Set.of("sheet", "set", "copy", "drop", "studio", "studios", "as");
    private static final Set<String> CHANGE = Set.of("sheet", "set", "copy", "drop", "room", "bend", "thing", "move", "bent",
        "mark", "rub", "draw", "stand", "ask");

    private final Check check;
    private final String sentence;
    private Story story = new Story();
    private List<String> lookOfStory = null;
    private Twin latest = null;

    Edge(Check check, String sentence) {
        this.check = check;
        this.sentence = sentence;
    }

    /** The calls from here on have this one, too, ahead of them. */
    Edge given(String name, int... numbers) {
        story = story.and(name, numbers);
        lookOfStory = null;
        return this;
    }

    /** The call is taken; one that only asks changes nothing, and answers the same when it is asked again. */
    Edge taken(long answer, String name, int... numbers) {
        make(answer, TELL_STATUS.contains(name) ? 0 : -1, name, numbers);
        if (!CHANGE.contains(name)) {
            then(answer, name, numbers);
            holdStill(name, numbers);
        }
        return this;
    }

    /** A further call on the object of the latest one that was made. */
    Edge then(long answer, String name, int... numbers) {
        check.due(sentence + ": then " + Face.told(Face.named(name), numbers), latest.call(name, numbers), answer);
        return this;
    }

    Edge bad(String name, int... numbers) {
        return refused(Check.BAD, name, numbers);
    }

    Edge full(String name, int... numbers) {
        return refused(Check.FULL, name, numbers);
    }

    /** A FINDING is named by its answer. */
    Edge finds(long finding, String name, int... numbers) {
        make(finding, -1000010 - finding, name, numbers);
        holdStill(name, numbers);
        return this;
    }

    private Edge refused(long answer, String name, int... numbers) {
        make(answer, -1, name, numbers);
        holdStill(name, numbers);
        return this;
    }

    /** A status of -1: it stays as it was. */
    private void make(long answer, long status, String name, int... numbers) {
        Story[] stories = {story, withFinding()};
        for (Story one : stories) {
            latest = one.twin();
            long ahead = latest.call("status");
            String told = sentence + ": " + Face.told(Face.named(name), numbers);
            check.due(told, latest.call(name, numbers), answer);
            check.due(told + ", status() that was " + ahead, latest.call("status"), status < 0 ? ahead : status);
        }
    }

    /** SIZE is found whatever the story is, and changes nothing but status(). */
    private Story withFinding() {
        return story.and("sheet", 0, 0, -1);
    }

    private void holdStill(String name, int... numbers) {
        if (lookOfStory == null) {
            lookOfStory = Look.at(story);
        }
        List<String> now = Look.at(withFinding().and(name, numbers));
        String told = sentence + ": after " + Face.told(Face.named(name), numbers);
        check.due(told + " as much is seen as ahead of it", now.size(), lookOfStory.size());
        for (int i = 0; i < Math.min(now.size(), lookOfStory.size()); i++) {
            if (!now.get(i).equals(lookOfStory.get(i))) {
                check.due(told + " " + now.get(i) + ", ahead of it: " + lookOfStory.get(i), false);
            }
        }
    }
}
