/** Promises 1 to 4, 15, 16 and 18: a new object, and what is set and told of it. */
public final class SettingsTest {
    public static void main(String[] args) {
        newObject();
        newObjectHasCountedNothing();
        setSpeed();
        setSpeedRefuses();
        setWeight();
        setWeightRefuses();
        setNumber();
        setNumberRefuses();
        tellsNoOthers();
        bitsOfEveryMagnitude();
        Checks.finish("SettingsTest");
    }

    private static void newObject() {
        LiftBeams lift = new LiftBeams();
        Checks.dueFloat("place()", lift.place(), 0.0f);
        float[] speeds = {10.0f, 8.0f, 2.0f, 8.0f};
        for (int which = 0; which < 4; which++) {
            Checks.dueFloat("speed " + which, lift.speed(which), speeds[which]);
        }
        int[] numbers = {5, 1, 2, 2, 3};
        for (int which = 0; which < 5; which++) {
            Checks.due("number " + which, lift.number(which), numbers[which]);
        }
        for (int kind = 0; kind < 4; kind++) {
            Checks.dueFloat("weight " + kind, lift.weight(kind), 1.0f);
            Checks.dueNaN("score " + kind, lift.score(kind));
        }
        for (int what = 0; what < 6; what++) {
            Checks.due("door " + what, lift.door(what), 0);
        }
    }

    private static void newObjectHasCountedNothing() {
        LiftBeams lift = new LiftBeams();
        for (int what = 0; what < 11; what++) {
            Checks.due("count " + what, lift.count(what), 0);
        }
        for (int what = 0; what < 8; what++) {
            Checks.due("thing " + what, lift.thing(what), LiftBeams.NONE);
        }
        for (int what = 0; what < 5; what++) {
            Checks.due("judged 0, " + what, lift.judged(0, what), LiftBeams.NONE);
        }
        Checks.due("shutsIn()", lift.shutsIn(), 0);
        Checks.due("undo()", lift.undo(), LiftBeams.NONE);
        Checks.due("restore()", lift.restore(), LiftBeams.NONE);
        Checks.due("readBeams()", lift.readBeams(), -100);
    }

    private static void setSpeed() {
        LiftBeams lift = new LiftBeams();
        float[] speeds = {0.5f, 50.0f, 3.3f};
        for (int which = 0; which < 3; which++) {
            Checks.due("setSpeed " + which, lift.setSpeed(which, Checks.bits(speeds[which])), 1);
            Checks.dueFloat("speed " + which, lift.speed(which), speeds[which]);
        }
        Checks.due("the states of three acts", lift.count(9), 3);
        lift.call();
        lift.pass(0, 3);
        Checks.dueFloat("the place after 3 ticks of 0.5f", lift.place(), 1.5f);
        lift.undo();
        lift.undo();
        lift.undo();
        Checks.dueFloat("a speed after undo()", lift.speed(2), 2.0f);
    }

    private static void setSpeedRefuses() {
        LiftBeams lift = new LiftBeams();
        Checks.due("a speed -1", lift.setSpeed(-1, Checks.bits(1.0f)), LiftBeams.UNKNOWN);
        Checks.due("a speed 3", lift.setSpeed(3, Checks.bits(1.0f)), LiftBeams.UNKNOWN);
        Checks.due("UNKNOWN ahead of BAD_VALUE", lift.setSpeed(3, 0), LiftBeams.UNKNOWN);
        float[] bad = {Math.nextDown(0.5f), Math.nextUp(50.0f), 0.0f, -0.0f, -10.0f, Float.NaN,
            Float.POSITIVE_INFINITY, Float.NEGATIVE_INFINITY, Float.MIN_VALUE, Float.MAX_VALUE};
        for (float value : bad) {
            Checks.due("the speed " + value, lift.setSpeed(0, Checks.bits(value)), LiftBeams.BAD_VALUE);
        }
        Checks.due("a NaN with a sign", lift.setSpeed(0, -1), LiftBeams.BAD_VALUE);
        Checks.due("a NaN of other bits", lift.setSpeed(0, 0x7F800001), LiftBeams.BAD_VALUE);
        Checks.due("the speed that it has", lift.setSpeed(0, Checks.bits(10.0f)), LiftBeams.NONE);
        Checks.due("the states of no act", lift.count(9), 0);
        Checks.dueFloat("the speed", lift.speed(0), 10.0f);
    }

    private static void setWeight() {
        LiftBeams lift = new LiftBeams();
        float[] weights = {0.0f, 4.0f, Float.MIN_VALUE, 0.1f};
        for (int kind = 0; kind < 4; kind++) {
            Checks.due("setWeight " + kind, lift.setWeight(kind, Checks.bits(weights[kind])), 1);
            Checks.dueFloat("weight " + kind, lift.weight(kind), weights[kind]);
        }
        Checks.due("the states of four acts", lift.count(9), 4);
        lift.undo();
        Checks.dueFloat("a weight after undo()", lift.weight(3), 1.0f);
    }

    private static void setWeightRefuses() {
        LiftBeams lift = new LiftBeams();
        Checks.due("a kind -1", lift.setWeight(-1, 0), LiftBeams.UNKNOWN);
        Checks.due("a kind 4", lift.setWeight(4, 0), LiftBeams.UNKNOWN);
        Checks.due("UNKNOWN ahead of BAD_VALUE", lift.setWeight(4, -1), LiftBeams.UNKNOWN);
        float[] bad = {-0.0f, -Float.MIN_VALUE, -1.0f, Math.nextUp(4.0f), Float.NaN,
            Float.POSITIVE_INFINITY, Float.NEGATIVE_INFINITY, Float.MAX_VALUE};
        for (float value : bad) {
            Checks.due("the weight " + value, lift.setWeight(0, Checks.bits(value)), LiftBeams.BAD_VALUE);
        }
        Checks.due("a NaN with a sign", lift.setWeight(0, -1), LiftBeams.BAD_VALUE);
        Checks.due("the weight that it has", lift.setWeight(0, Checks.bits(1.0f)), LiftBeams.NONE);
        Checks.due("the weight 0.0f", lift.setWeight(0, 0), 1);
        Checks.due("the weight 0.0f again", lift.setWeight(0, 0), LiftBeams.NONE);
        Checks.due("the states of one act", lift.count(9), 1);
    }

    private static void setNumber() {
        int[] first = {5, 1, 2, 2, 3};
        int[] least = {1, 0, 0, 0, 1};
        int[] greatest = {50, 5, 5, 5, 10};
        for (int which = 0; which < 5; which++) {
            LiftBeams lift = new LiftBeams();
            Checks.due("the least number " + which, lift.setNumber(which, least[which]), first[which]);
            Checks.due("number " + which, lift.number(which), least[which]);
            Checks.due("the greatest number " + which, lift.setNumber(which, greatest[which]), least[which]);
            Checks.due("number " + which, lift.number(which), greatest[which]);
            Checks.due("the same again", lift.setNumber(which, greatest[which]), LiftBeams.NONE);
            Checks.due("too small", lift.setNumber(which, least[which] - 1), LiftBeams.BAD_VALUE);
            Checks.due("too great", lift.setNumber(which, greatest[which] + 1), LiftBeams.BAD_VALUE);
            Checks.due("the states of two acts", lift.count(9), 2);
            lift.undo();
            Checks.due("a number after undo()", lift.number(which), least[which]);
            for (int other = 0; other < 5; other++) {
                if (other != which) {
                    Checks.due("another number " + other, lift.number(other), first[other]);
                }
            }
        }
    }

    private static void setNumberRefuses() {
        LiftBeams lift = new LiftBeams();
        Checks.due("a number -1", lift.setNumber(-1, 1), LiftBeams.UNKNOWN);
        Checks.due("a number 5", lift.setNumber(5, 1), LiftBeams.UNKNOWN);
        Checks.due("UNKNOWN ahead of BAD_VALUE", lift.setNumber(5, -1), LiftBeams.UNKNOWN);
        Checks.due("a number of extremes", lift.setNumber(Integer.MIN_VALUE, 1), LiftBeams.UNKNOWN);
        Checks.due("a value of extremes", lift.setNumber(0, Integer.MAX_VALUE), LiftBeams.BAD_VALUE);
        Checks.due("the states of no act", lift.count(9), 0);
    }

    private static void tellsNoOthers() {
        LiftBeams lift = new LiftBeams();
        int[] outside = {-1, Integer.MIN_VALUE, Integer.MAX_VALUE};
        for (int which : outside) {
            Checks.dueNaN("speed " + which, lift.speed(which));
            Checks.dueNaN("weight " + which, lift.weight(which));
            Checks.due("number " + which, lift.number(which), LiftBeams.UNKNOWN);
        }
        Checks.dueNaN("speed 4", lift.speed(4));
        Checks.dueNaN("weight 4", lift.weight(4));
        Checks.due("number 5", lift.number(5), LiftBeams.UNKNOWN);
    }

    private static void bitsOfEveryMagnitude() {
        int fourBits = Checks.bits(4.0f);
        for (int bits = 0; bits <= fourBits; bits += bits / 2 + 1) {
            LiftBeams lift = new LiftBeams();
            lift.setWeight(2, bits);
            Checks.dueFloat("the weight of the bits " + bits, lift.weight(2), Float.intBitsToFloat(bits));
        }
        int halfBits = Checks.bits(0.5f);
        int fiftyBits = Checks.bits(50.0f);
        for (int bits = halfBits; bits <= fiftyBits; bits += 1234567) {
            LiftBeams lift = new LiftBeams();
            lift.setSpeed(1, bits);
            Checks.dueFloat("the speed of the bits " + bits, lift.speed(1), Float.intBitsToFloat(bits));
        }
    }
}
