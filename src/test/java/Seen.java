import java.util.LinkedHashMap;
import java.util.Map;

/** Whatever can be asked of an object, so that a test sees that a call has changed nothing. */
final class Seen {
    private static final long NOT_ASKED = Long.MIN_VALUE + 77;

    private final ArrayRules x;
    private final Map<String, Long> answers;

    Seen(ArrayRules x) {
        this.x = x;
        answers = ask(x);
    }

    private static Map<String, Long> ask(ArrayRules x) {
        Map<String, Long> answers = new LinkedHashMap<>();
        for (int what = 0; what < 3; what++) {
            answers.put("told " + what, (long) x.told(what));
        }
        answers.put("value", x.value());
        answers.put("where", (long) x.where());
        answers.put("worked", (long) x.worked());
        answers.put("notes", (long) x.notes());
        for (int i = 0; i <= Math.min(x.notes(), 256); i++) {
            answers.put("note " + i, (long) x.note(i));
        }
        for (int v = 0; v < 8; v++) {
            answers.put("has " + v, (long) x.has(v));
            answers.put("get " + v, x.get(v));
        }
        for (int thing = 0; thing <= x.told(1); thing++) {
            askThing(x, thing, answers);
        }
        return answers;
    }

    private static void askThing(ArrayRules x, int thing, Map<String, Long> answers) {
        for (int what = 0; what < 3; what++) {
            answers.put("thing " + thing + ", " + what, (long) x.thing(thing, what));
        }
        for (int i = 0; i <= x.thing(thing, 1); i++) {
            answers.put("element " + thing + ", " + i, x.element(thing, i));
            answers.put("bits " + thing + ", " + i, x.bits(thing, i));
        }
    }

    /** All that could be seen then is to be seen now, and no more. */
    void dueStill(String what) {
        dueSame(what, ask(x));
    }

    /** Another object is to be seen as this one was. */
    void dueLike(String what, ArrayRules other) {
        dueSame(what, ask(other));
    }

    private void dueSame(String what, Map<String, Long> now) {
        Check.due(what + ": how much is seen", now.size(), answers.size());
        for (Map.Entry<String, Long> then : answers.entrySet()) {
            long got = now.getOrDefault(then.getKey(), NOT_ASKED);
            Check.due(what + ": " + then.getKey(), got, then.getValue());
        }
    }
}
