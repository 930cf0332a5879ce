/** What the tests share: comparing answers, typing a text, and ending with 1 if an answer was wrong. */
final class Checks {
    private static int checked = 0;
    private static int wrong = 0;

    private Checks() {
    }

    static void due(String what, long got, long want) {
        checked++;
        if (got != want) {
            tell(what + " answered " + got + ", due is " + want);
        }
    }

    /** Floats are compared by their bits, so that 0.0f and -0.0f differ. */
    static void dueFloat(String what, float got, float want) {
        checked++;
        if (Float.floatToIntBits(got) != Float.floatToIntBits(want)) {
            tell(what + " answered " + got + ", due is " + want);
        }
    }

    static void dueNaN(String what, float got) {
        dueFloat(what, got, Float.NaN);
    }

    static void typeText(LiftBeams lift, String text) {
        for (int i = 0; i < text.length(); i++) {
            lift.type(text.charAt(i));
        }
    }

    /** An object whose text is this one. */
    static LiftBeams withText(String text) {
        LiftBeams lift = new LiftBeams();
        typeText(lift, text);
        return lift;
    }

    static int bits(float value) {
        return Float.floatToRawIntBits(value);
    }

    /** Lets the door open and wait till it has just begun to close, from 100.0f, with no beam broken. */
    static LiftBeams closing() {
        LiftBeams lift = new LiftBeams();
        lift.call();
        lift.pass(0, 15);
        due("the state of a door that begins to close", lift.door(0), 3);
        return lift;
    }

    /** A closing door that opens again in the first broken tick, and opens, waits and closes fast. */
    static LiftBeams quickClosing(int limit, int rest) {
        LiftBeams lift = new LiftBeams();
        lift.setNumber(0, 1);
        lift.setNumber(1, 0);
        lift.setNumber(2, limit);
        lift.setNumber(3, rest);
        lift.setSpeed(0, bits(50.0f));
        lift.call();
        lift.pass(0, 3);
        due("the state of a door that closes", lift.door(0), 3);
        return lift;
    }

    /** A shut door with an empty text, and a full history, in a tick from 97811 to 99999. */
    static LiftBeams atTick(int tick) {
        LiftBeams lift = withText("0*99,0*99,0*99,0*99,0*99,0*99,0*99,0*99,0*99,0*99,0*99,0*9,0");
        for (int time = 1; time <= 89; time++) {
            lift.readBeams();
        }
        for (int left = tick - lift.count(0); left > 0; left -= 99) {
            lift.pass(0, Math.min(left, 99));
        }
        lift.clearText();
        due("the tick to begin with", lift.count(0), tick);
        return lift;
    }

    static void finish(String name) {
        System.out.println(name + ": " + checked + " answers, " + wrong + " wrong");
        if (wrong != 0) {
            System.exit(1);
        }
    }

    private static void tell(String message) {
        wrong++;
        if (wrong <= 40) {
            System.out.println(message);
        }
    }
}
