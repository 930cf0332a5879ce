/** Wrong inputs of every size: each is answered with its error, nothing is thrown, and nothing changes. */
public final class ExtremesTest {
    private static final int[] OUTSIDE = {Integer.MIN_VALUE, Integer.MIN_VALUE + 1, -1000, -1,
        11, 60, 1000, 0x40000000, Integer.MAX_VALUE - 1, Integer.MAX_VALUE};

    public static void main(String[] args) {
        for (int outside : OUTSIDE) {
            LiftBeams lift = Checks.closing();
            lift.pass(3, 1);
            oneArgument(lift, outside);
            for (int other : OUTSIDE) {
                twoArguments(lift, outside, other);
            }
            Checks.due("the states of three acts", lift.count(9), 3);
            Checks.due("the tick", lift.count(0), 16);
        }
        Checks.finish("ExtremesTest");
    }

    private static void oneArgument(LiftBeams lift, int outside) {
        Checks.dueNaN("speed " + outside, lift.speed(outside));
        Checks.dueNaN("weight " + outside, lift.weight(outside));
        Checks.dueNaN("score " + outside, lift.score(outside));
        Checks.due("number " + outside, lift.number(outside), LiftBeams.UNKNOWN);
        Checks.due("door " + outside, lift.door(outside), LiftBeams.BAD_VALUE);
        Checks.due("thing " + outside, lift.thing(outside), LiftBeams.BAD_VALUE);
        Checks.due("count " + outside, lift.count(outside), LiftBeams.BAD_VALUE);
        Checks.due("judged 0, " + outside, lift.judged(0, outside), LiftBeams.BAD_VALUE);
        int due = outside < 0 ? LiftBeams.BAD_VALUE : LiftBeams.NONE;
        Checks.due("judged " + outside + ", 0", lift.judged(outside, 0), due);
        Checks.due("pass " + outside + ", 1", lift.pass(outside, 1), LiftBeams.BAD_VALUE);
        Checks.dueNaN("placeIn " + outside + ", 1", lift.placeIn(outside, 1));
        if (outside < 0 || outside > 99) {
            Checks.due("pass 1, " + outside, lift.pass(1, outside), LiftBeams.BAD_VALUE);
            Checks.dueNaN("placeIn 1, " + outside, lift.placeIn(1, outside));
        }
    }

    private static void twoArguments(LiftBeams lift, int outside, int other) {
        Checks.due("setSpeed", lift.setSpeed(outside, other), LiftBeams.UNKNOWN);
        Checks.due("setWeight", lift.setWeight(outside, other), LiftBeams.UNKNOWN);
        Checks.due("setNumber", lift.setNumber(outside, other), LiftBeams.UNKNOWN);
        Checks.due("pass", lift.pass(outside, other), LiftBeams.BAD_VALUE);
        Checks.dueNaN("placeIn", lift.placeIn(outside, other));
    }
}
