import java.util.LinkedHashMap;
import java.util.Map;

/** All that an object tells, by the call that tells it, so that two objects or two moments can be compared. */
final class Told {
    private final Map<String, Integer> answers = new LinkedHashMap<>();

    private Told() {
    }

    /** What is told of the state: all but the text, the history and the snapshot. */
    static Told stateOf(LiftBeams lift) {
        Told told = new Told();
        for (int which = 0; which < 4; which++) {
            told.putFloat("speed(" + which + ")", lift.speed(which));
            told.putFloat("weight(" + which + ")", lift.weight(which));
            told.putFloat("score(" + which + ")", lift.score(which));
        }
        told.put("the number", lift::number, 5);
        told.put("the door", lift::door, 6);
        told.put("the thing", lift::thing, 8);
        told.put("the count", lift::count, 9);
        for (int back = 0; back < 10; back++) {
            for (int what = 0; what < 5; what++) {
                told.answers.put("judged(" + back + ", " + what + ")", lift.judged(back, what));
            }
        }
        told.answers.put("judged(10, 0)", lift.judged(10, 0));
        told.putFloat("place()", lift.place());
        told.answers.put("shutsIn()", lift.shutsIn());
        told.putFloat("placeIn(0, 20)", lift.placeIn(0, 20));
        told.putFloat("placeIn(7, 3)", lift.placeIn(7, 3));
        return told;
    }

    /** What is told of the state, how many states the history has, and how long the text is. */
    static Told allOf(LiftBeams lift) {
        Told told = stateOf(lift);
        told.answers.put("the states", lift.count(9));
        told.answers.put("the length of the text", lift.count(10));
        return told;
    }

    /** Compares each answer with that of the other one. */
    void mustBe(String when, Told want) {
        for (Map.Entry<String, Integer> answer : answers.entrySet()) {
            Checks.due(when + ": " + answer.getKey(), answer.getValue(), want.answers.get(answer.getKey()));
        }
    }

    /** Tells whether any answer differs, so that a test can be sure that an act did something. */
    boolean differs(Told other) {
        return !answers.equals(other.answers);
    }

    private void put(String name, java.util.function.IntUnaryOperator tell, int bound) {
        for (int what = 0; what < bound; what++) {
            answers.put(name + " " + what, tell.applyAsInt(what));
        }
    }

    private void putFloat(String name, float value) {
        answers.put(name, Float.floatToIntBits(value));
    }
}
