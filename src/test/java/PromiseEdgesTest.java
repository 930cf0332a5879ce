/** Promises 1 to 24, one by one: the ranges of the arguments, each error of each @return line, in its order. */
public final class PromiseEdgesTest {
    private static final int[] LEAST = {1, 0, 0, 0, 1};
    private static final int[] GREATEST = {50, 5, 5, 5, 10};
    private static final int[] AT_FIRST = {5, 1, 2, 2, 3};
    private static final int[] NAN_BITS = {0x7FC00000, 0x7F800001, 0x7FFFFFFF, 0xFFC00000, 0xFF800001, -1};
    private static final int[] INFINITE_BITS = {0x7F800000, 0xFF800000};

    public static void main(String[] args) {
        newObject();
        newObjectsShareNothing();
        fiveHundredAndTwelveCalls();
        setSpeedUnknown();
        setSpeedRange();
        setSpeedNoNumber();
        setSpeedSoAlready();
        setWeightUnknown();
        setWeightRange();
        setWeightNoNumber();
        setWeightSoAlready();
        setNumberUnknown();
        setNumberRange();
        setNumberSoAlready();
        passBeams();
        passTicks();
        passFull();
        passOrder();
        place();
        speed();
        speedOfClosingNow();
        weight();
        score();
        number();
        door();
        doorCutsTheFraction();
        thing();
        thingOrder();
        judged();
        judgedOrder();
        judgedFarBack();
        shutsIn();
        shutsInGoesOnWithTheThing();
        placeInRange();
        placeInAsInPass();
        forecastsWhateverTheTick();
        count();
        countsSoFar();
        Checks.finish("PromiseEdgesTest");
    }

    // Promise 1: "Creates a door that is shut."
    private static void newObject() {
        LiftBeams lift = new LiftBeams();
        Checks.due("the state", lift.door(0), 0);
        Checks.dueFloat("the place", lift.place(), 0.0f);
        for (int which = 0; which < 5; which++) {
            Checks.due("number " + which, lift.number(which), AT_FIRST[which]);
        }
        Checks.dueFloat("for opening", lift.speed(0), 10.0f);
        Checks.dueFloat("for closing", lift.speed(1), 8.0f);
        Checks.dueFloat("for closing slowly", lift.speed(2), 2.0f);
        for (int kind = 0; kind < 4; kind++) {
            Checks.dueFloat("weight " + kind, lift.weight(kind), 1.0f);
        }
        for (int what = 0; what <= 10; what++) {
            Checks.due("count " + what, lift.count(what), 0);
        }
    }

    private static void newObjectsShareNothing() {
        LiftBeams one = new LiftBeams();
        LiftBeams other = new LiftBeams();
        Told before = Told.allOf(other);
        one.setSpeed(0, Checks.bits(50.0f));
        one.setWeight(0, 0);
        one.setNumber(0, 1);
        one.call();
        one.pass(7, 9);
        one.pass(0, 99);
        one.type('1');
        one.keep();
        Told.allOf(other).mustBe("another object", before);
        Told.allOf(new LiftBeams()).mustBe("a later object", before);
        Checks.due("no snapshot", other.restore(), LiftBeams.NONE);
        Checks.due("no history", other.undo(), LiftBeams.NONE);
    }

    // "An object is used for at most 512 calls after it has been made"
    private static void fiveHundredAndTwelveCalls() {
        LiftBeams lift = new LiftBeams();
        for (int call = 1; call <= 510; call++) {
            lift.pass(call % 8, 99);
        }
        Checks.due("the call 511", lift.pass(0, 99), 0);
        Checks.due("the call 512", lift.count(0), 511 * 99);
    }

    // Promise 2: "UNKNOWN", ahead of all others
    private static void setSpeedUnknown() {
        int[] bits = {Checks.bits(1.0f), Checks.bits(10.0f), 0, -1, Integer.MIN_VALUE, Integer.MAX_VALUE};
        for (int value : bits) {
            for (int which : new int[] {-1, 3, 4, Integer.MIN_VALUE, Integer.MAX_VALUE}) {
                Checks.due("setSpeed " + which, new LiftBeams().setSpeed(which, value), LiftBeams.UNKNOWN);
            }
        }
    }

    // "BAD_VALUE (.. not from 0.5f to 50.0f)"
    private static void setSpeedRange() {
        int[] good = {0x3F000000, 0x3F000001, 0x4247FFFF, 0x42480000};
        int[] bad = {0x3EFFFFFF, 0x42480001, 0xBF000000, 0xC2480000, 0, 1, Integer.MIN_VALUE, 0x80000001, 0x7F7FFFFF};
        for (int which = 0; which < 3; which++) {
            LiftBeams lift = new LiftBeams();
            float first = lift.speed(which);
            for (int bits : bad) {
                Checks.due("setSpeed " + bits, lift.setSpeed(which, bits), LiftBeams.BAD_VALUE);
                Checks.dueFloat("the speed stays", lift.speed(which), first);
            }
            for (int bits : good) {
                Checks.due("setSpeed " + bits, lift.setSpeed(which, bits), 1);
                Checks.dueFloat("the speed", lift.speed(which), Float.intBitsToFloat(bits));
            }
        }
    }

    // "BAD_VALUE (no number, ..)"
    private static void setSpeedNoNumber() {
        for (int which = 0; which < 3; which++) {
            LiftBeams lift = new LiftBeams();
            for (int bits : NAN_BITS) {
                Checks.due("a NaN " + bits, lift.setSpeed(which, bits), LiftBeams.BAD_VALUE);
            }
            for (int bits : INFINITE_BITS) {
                Checks.due("without end " + bits, lift.setSpeed(which, bits), LiftBeams.BAD_VALUE);
            }
            Checks.due("no act", lift.count(9), 0);
        }
    }

    // "NONE if it is so already"
    private static void setSpeedSoAlready() {
        float[] first = {10.0f, 8.0f, 2.0f};
        for (int which = 0; which < 3; which++) {
            LiftBeams lift = new LiftBeams();
            Checks.due("as at first", lift.setSpeed(which, Checks.bits(first[which])), LiftBeams.NONE);
            Checks.due("no act", lift.count(9), 0);
            Checks.due("a bit more", lift.setSpeed(which, Checks.bits(first[which]) + 1), 1);
            Checks.due("the same again", lift.setSpeed(which, Checks.bits(first[which]) + 1), LiftBeams.NONE);
            Checks.due("a bit less", lift.setSpeed(which, Checks.bits(first[which]) - 1), 1);
            Checks.due("back", lift.setSpeed(which, Checks.bits(first[which])), 1);
            Checks.due("three acts", lift.count(9), 3);
            for (float edge : new float[] {0.5f, 50.0f}) {
                Checks.due("the edge", lift.setSpeed(which, Checks.bits(edge)), 1);
                Checks.due("the edge again", lift.setSpeed(which, Checks.bits(edge)), LiftBeams.NONE);
            }
        }
    }

    // Promise 3: "UNKNOWN", ahead of all others
    private static void setWeightUnknown() {
        int[] bits = {Checks.bits(2.0f), Checks.bits(1.0f), 0, -1, Integer.MIN_VALUE, Integer.MAX_VALUE};
        for (int value : bits) {
            for (int kind : new int[] {-1, 4, 5, Integer.MIN_VALUE, Integer.MAX_VALUE}) {
                Checks.due("setWeight " + kind, new LiftBeams().setWeight(kind, value), LiftBeams.UNKNOWN);
            }
        }
    }

    // "BAD_VALUE (.. not from 0.0f to 4.0f, or -0.0f)"
    private static void setWeightRange() {
        int[] good = {0, 1, 2, 0x007FFFFF, 0x00800000, 0x00800001, 0x407FFFFF, 0x40800000};
        int[] bad = {0x40800001, Integer.MIN_VALUE, 0x80000001, 0x80800000, 0xBF800000, 0xC0800000, 0x7F7FFFFF};
        for (int kind = 0; kind < 4; kind++) {
            LiftBeams lift = new LiftBeams();
            for (int bits : bad) {
                Checks.due("setWeight " + bits, lift.setWeight(kind, bits), LiftBeams.BAD_VALUE);
                Checks.dueFloat("the weight stays", lift.weight(kind), 1.0f);
            }
            for (int bits : good) {
                Checks.due("setWeight " + bits, lift.setWeight(kind, bits), 1);
                Checks.dueFloat("the weight", lift.weight(kind), Float.intBitsToFloat(bits));
            }
        }
    }

    // "BAD_VALUE (no number, ..)"
    private static void setWeightNoNumber() {
        for (int kind = 0; kind < 4; kind++) {
            LiftBeams lift = new LiftBeams();
            for (int bits : NAN_BITS) {
                Checks.due("a NaN " + bits, lift.setWeight(kind, bits), LiftBeams.BAD_VALUE);
            }
            for (int bits : INFINITE_BITS) {
                Checks.due("without end " + bits, lift.setWeight(kind, bits), LiftBeams.BAD_VALUE);
            }
            Checks.due("no act", lift.count(9), 0);
        }
    }

    // "NONE if it is so already"; -0.0f is refused, though it equals 0.0f
    private static void setWeightSoAlready() {
        for (int kind = 0; kind < 4; kind++) {
            LiftBeams lift = new LiftBeams();
            Checks.due("as at first", lift.setWeight(kind, Checks.bits(1.0f)), LiftBeams.NONE);
            Checks.due("no act", lift.count(9), 0);
            for (int bits : new int[] {0x3F800001, 0x3F7FFFFF, 0, 1, 0x40800000}) {
                Checks.due("another one", lift.setWeight(kind, bits), 1);
                Checks.due("the same again", lift.setWeight(kind, bits), LiftBeams.NONE);
            }
            lift.setWeight(kind, 0);
            Checks.due("-0.0f when it is 0.0f", lift.setWeight(kind, Checks.bits(-0.0f)), LiftBeams.BAD_VALUE);
            Checks.dueFloat("the weight", lift.weight(kind), 0.0f);
        }
    }

    // Promise 4: "UNKNOWN", ahead of all others
    private static void setNumberUnknown() {
        for (int value : new int[] {1, 5, 0, -1, 51, Integer.MIN_VALUE, Integer.MAX_VALUE}) {
            for (int which : new int[] {-1, 5, 6, Integer.MIN_VALUE, Integer.MAX_VALUE}) {
                Checks.due("setNumber " + which, new LiftBeams().setNumber(which, value), LiftBeams.UNKNOWN);
            }
        }
    }

    // "the dwell (1 to 50), .. the patience (0 to 5), .. the limit (0 to 5), .. the rest (0 to 5), .. the gap (1 to 10)"
    private static void setNumberRange() {
        for (int which = 0; which < 5; which++) {
            LiftBeams lift = new LiftBeams();
            int now = AT_FIRST[which];
            for (int value = LEAST[which] - 3; value <= GREATEST[which] + 3; value++) {
                boolean good = value >= LEAST[which] && value <= GREATEST[which];
                int due = !good ? LiftBeams.BAD_VALUE : value == now ? LiftBeams.NONE : now;
                Checks.due("setNumber " + which + ", " + value, lift.setNumber(which, value), due);
                now = good ? value : now;
                Checks.due("number " + which, lift.number(which), now);
            }
            for (int value : new int[] {Integer.MIN_VALUE, Integer.MAX_VALUE}) {
                Checks.due("setNumber " + which + ", " + value, lift.setNumber(which, value), LiftBeams.BAD_VALUE);
            }
            Checks.due("number " + which, lift.number(which), GREATEST[which]);
        }
    }

    // "Returns the previous one; .. NONE if it is so already."
    private static void setNumberSoAlready() {
        for (int which = 0; which < 5; which++) {
            LiftBeams lift = new LiftBeams();
            Checks.due("as at first", lift.setNumber(which, AT_FIRST[which]), LiftBeams.NONE);
            Checks.due("no act", lift.count(9), 0);
            Checks.due("the least one", lift.setNumber(which, LEAST[which]), AT_FIRST[which]);
            Checks.due("the least one again", lift.setNumber(which, LEAST[which]), LiftBeams.NONE);
            Checks.due("the greatest one", lift.setNumber(which, GREATEST[which]), LEAST[which]);
            Checks.due("the greatest one again", lift.setNumber(which, GREATEST[which]), LiftBeams.NONE);
            Checks.due("back", lift.setNumber(which, AT_FIRST[which]), GREATEST[which]);
            Checks.due("three acts", lift.count(9), 3);
        }
    }

    // Promise 7: "beams: 0 to 7"
    private static void passBeams() {
        for (int beams = -2; beams <= 9; beams++) {
            boolean good = beams >= 0 && beams <= 7;
            LiftBeams lift = new LiftBeams();
            Checks.due("pass " + beams, lift.pass(beams, 1), good ? 0 : LiftBeams.BAD_VALUE);
            Checks.due("the tick", lift.count(0), good ? 1 : 0);
        }
        Checks.due("the least int", new LiftBeams().pass(Integer.MIN_VALUE, 1), LiftBeams.BAD_VALUE);
        Checks.due("the greatest int", new LiftBeams().pass(Integer.MAX_VALUE, 1), LiftBeams.BAD_VALUE);
    }

    // "ticks: 1 to 99"
    private static void passTicks() {
        for (int ticks = -1; ticks <= 101; ticks++) {
            boolean good = ticks >= 1 && ticks <= 99;
            LiftBeams lift = new LiftBeams();
            Checks.due("pass of " + ticks, lift.pass(5, ticks), good ? 0 : LiftBeams.BAD_VALUE);
            Checks.due("the tick", lift.count(0), good ? ticks : 0);
            Checks.due("broken", lift.count(8), good ? ticks : 0);
        }
        Checks.due("the least int", new LiftBeams().pass(0, Integer.MIN_VALUE), LiftBeams.BAD_VALUE);
        Checks.due("the greatest int", new LiftBeams().pass(0, Integer.MAX_VALUE), LiftBeams.BAD_VALUE);
    }

    // "FULL if the tick would be more than 99999"
    private static void passFull() {
        for (int left : new int[] {0, 1, 2, 50, 98, 99, 100}) {
            for (int ticks : new int[] {1, 2, 49, 50, 51, 97, 98, 99}) {
                LiftBeams lift = Checks.atTick(99999 - left);
                boolean fits = ticks <= left;
                Checks.due(ticks + " with " + left + " left", lift.pass(0, ticks), fits ? 0 : LiftBeams.FULL);
                Checks.due("the tick", lift.count(0), 99999 - left + (fits ? ticks : 0));
            }
        }
    }

    private static void passOrder() {
        LiftBeams lift = Checks.atTick(99999);
        Checks.due("beams ahead of FULL", lift.pass(8, 1), LiftBeams.BAD_VALUE);
        Checks.due("beams ahead of FULL", lift.pass(-1, 1), LiftBeams.BAD_VALUE);
        Checks.due("ticks ahead of FULL", lift.pass(0, 0), LiftBeams.BAD_VALUE);
        Checks.due("ticks ahead of FULL", lift.pass(0, 100), LiftBeams.BAD_VALUE);
        Checks.due("ticks ahead of FULL", lift.pass(0, Integer.MAX_VALUE), LiftBeams.BAD_VALUE);
        Checks.due("FULL", lift.pass(0, 1), LiftBeams.FULL);
        Checks.due("FULL", lift.pass(7, 99), LiftBeams.FULL);
    }

    // Promise 14: "Returns the place of the door."
    private static void place() {
        LiftBeams lift = new LiftBeams();
        Checks.dueFloat("shut", lift.place(), 0.0f);
        lift.call();
        Checks.dueFloat("called", lift.place(), 0.0f);
        lift.pass(0, 1);
        Checks.dueFloat("opening", lift.place(), 10.0f);
        lift.pass(0, 9);
        Checks.dueFloat("open", lift.place(), 100.0f);
        lift.pass(0, 6);
        Checks.dueFloat("closing", lift.place(), 92.0f);
        lift.pass(0, 12);
        Checks.dueFloat("shut again", lift.place(), 0.0f);
    }

    // Promise 15: "a NaN (0.0f / 0.0f) if there is no such one"
    private static void speed() {
        LiftBeams lift = new LiftBeams();
        float[] due = {10.0f, 8.0f, 2.0f, 8.0f};
        for (int which = 0; which <= 3; which++) {
            Checks.dueFloat("speed " + which, lift.speed(which), due[which]);
        }
        for (int which : new int[] {-1, 4, 5, Integer.MIN_VALUE, Integer.MAX_VALUE}) {
            Checks.dueNaN("speed " + which, lift.speed(which));
        }
    }

    // "3 for that with which it would close now (1 or 2)"
    private static void speedOfClosingNow() {
        LiftBeams lift = Checks.quickClosing(0, 5);
        lift.setSpeed(1, Checks.bits(33.0f));
        Checks.dueFloat("that of closing", lift.speed(3), 33.0f);
        lift.pass(7, 1);
        Checks.dueFloat("that of closing slowly, as it opens", lift.speed(3), 2.0f);
        lift.setSpeed(2, Checks.bits(0.5f));
        Checks.dueFloat("as it is set", lift.speed(3), 0.5f);
        lift.setNumber(2, 1);
        Checks.dueFloat("that of closing by another limit", lift.speed(3), 33.0f);
    }

    // Promise 16: "a NaN if there is no such kind"
    private static void weight() {
        LiftBeams lift = new LiftBeams();
        for (int kind = 0; kind < 4; kind++) {
            lift.setWeight(kind, Checks.bits(0.25f * kind));
            Checks.dueFloat("weight " + kind, lift.weight(kind), 0.25f * kind);
        }
        for (int kind : new int[] {-1, 4, 5, Integer.MIN_VALUE, Integer.MAX_VALUE}) {
            Checks.dueNaN("weight " + kind, lift.weight(kind));
        }
    }

    // Promise 17: "a NaN if there is no such kind, or no thing"
    private static void score() {
        LiftBeams lift = new LiftBeams();
        for (int kind = -1; kind <= 4; kind++) {
            Checks.dueNaN("no thing, kind " + kind, lift.score(kind));
        }
        lift.pass(3, 1);
        float[] due = {1.0f, 0.375f, 0.5f, 0.0f};
        for (int kind = 0; kind < 4; kind++) {
            Checks.dueFloat("score " + kind, lift.score(kind), due[kind]);
        }
        for (int kind : new int[] {-1, 4, 5, Integer.MIN_VALUE, Integer.MAX_VALUE}) {
            Checks.dueNaN("score " + kind, lift.score(kind));
        }
        lift.pass(0, 2);
        Checks.dueFloat("while it lasts", lift.score(0), 1.0f);
        lift.pass(0, 1);
        for (int kind = -1; kind <= 4; kind++) {
            Checks.dueNaN("no thing any more, kind " + kind, lift.score(kind));
        }
    }

    // Promise 18: "Returns the number, as set by setNumber(); UNKNOWN."
    private static void number() {
        LiftBeams lift = new LiftBeams();
        for (int which = 0; which < 5; which++) {
            lift.setNumber(which, 4);
            Checks.due("number " + which, lift.number(which), 4);
        }
        for (int which : new int[] {-1, 5, 6, Integer.MIN_VALUE, Integer.MAX_VALUE}) {
            Checks.due("number " + which, lift.number(which), LiftBeams.UNKNOWN);
        }
    }

    // Promise 19: "Returns the number; BAD_VALUE."
    private static void door() {
        LiftBeams lift = Checks.quickClosing(0, 0);
        lift.pass(7, 1);
        lift.pass(0, 3);
        int[] due = {2, 0, 1, 2, 0, 100};
        for (int what = 0; what < 6; what++) {
            Checks.due("door " + what, lift.door(what), due[what]);
        }
        for (int what : new int[] {-1, 6, 7, Integer.MIN_VALUE, Integer.MAX_VALUE}) {
            Checks.due("door " + what, lift.door(what), LiftBeams.BAD_VALUE);
        }
    }

    // "5 for the place, as a whole number (the fraction is cut off)"
    private static void doorCutsTheFraction() {
        float[] speeds = {0.5f, Math.nextDown(1.0f), 1.0f, Math.nextUp(1.0f), 1.5f, 1.99f, Math.nextDown(50.0f), 50.0f};
        int[] due = {0, 0, 1, 1, 1, 1, 49, 50};
        for (int row = 0; row < speeds.length; row++) {
            LiftBeams lift = new LiftBeams();
            lift.setSpeed(0, Checks.bits(speeds[row]));
            lift.call();
            lift.pass(0, 1);
            Checks.due("the place " + speeds[row], lift.door(5), due[row]);
        }
        LiftBeams lift = new LiftBeams();
        lift.setSpeed(0, Checks.bits(Math.nextDown(25.0f)));
        lift.call();
        lift.pass(0, 4);
        Checks.due("just ahead of 100", lift.door(5), 99);
        lift.pass(0, 1);
        Checks.due("open", lift.door(5), 100);
    }

    // Promise 20: "Returns the number; BAD_VALUE; NONE if there is no thing."
    private static void thing() {
        LiftBeams lift = Checks.closing();
        lift.pass(3, 1);
        lift.pass(1, 2);
        lift.pass(0, 1);
        int[] due = {3, 3, 1, 0, 15, 1, 1, 2};
        for (int what = 0; what < 8; what++) {
            Checks.due("thing " + what, lift.thing(what), due[what]);
        }
        for (int what : new int[] {-1, 8, 9, Integer.MIN_VALUE, Integer.MAX_VALUE}) {
            Checks.due("thing " + what, lift.thing(what), LiftBeams.BAD_VALUE);
        }
    }

    private static void thingOrder() {
        LiftBeams lift = new LiftBeams();
        for (int what = 0; what < 8; what++) {
            Checks.due("no thing, " + what, lift.thing(what), LiftBeams.NONE);
        }
        for (int what : new int[] {-1, 8, 9, Integer.MIN_VALUE, Integer.MAX_VALUE}) {
            Checks.due("BAD_VALUE ahead of NONE", lift.thing(what), LiftBeams.BAD_VALUE);
        }
    }

    // Promise 21: "Returns the number; BAD_VALUE (back is negative, or what); NONE if there is none."
    private static void judged() {
        LiftBeams lift = new LiftBeams();
        lift.pass(0, 2);
        lift.pass(3, 4);
        lift.pass(0, 3);
        int[] due = {2, 2, 4, 3, 8};
        for (int what = 0; what < 5; what++) {
            Checks.due("judged 0, " + what, lift.judged(0, what), due[what]);
            Checks.due("judged 1, " + what, lift.judged(1, what), LiftBeams.NONE);
            Checks.due("judged -1, " + what, lift.judged(-1, what), LiftBeams.BAD_VALUE);
        }
        for (int what : new int[] {-1, 5, 6, Integer.MIN_VALUE, Integer.MAX_VALUE}) {
            Checks.due("judged 0, " + what, lift.judged(0, what), LiftBeams.BAD_VALUE);
        }
        Checks.due("the least int", lift.judged(Integer.MIN_VALUE, 0), LiftBeams.BAD_VALUE);
    }

    private static void judgedOrder() {
        LiftBeams lift = new LiftBeams();
        for (int back : new int[] {-1, 0, 1, 9, 10, Integer.MAX_VALUE}) {
            Checks.due("BAD_VALUE ahead of NONE", lift.judged(back, -1), LiftBeams.BAD_VALUE);
            Checks.due("BAD_VALUE ahead of NONE", lift.judged(back, 5), LiftBeams.BAD_VALUE);
            int due = back < 0 ? LiftBeams.BAD_VALUE : LiftBeams.NONE;
            Checks.due("judged " + back + ", 0", lift.judged(back, 0), due);
            Checks.due("judged " + back + ", 4", lift.judged(back, 4), due);
        }
    }

    // A back that wraps around when it is multiplied by the 5 numbers, or by 4 or 8 bytes, is far back as well.
    private static void judgedFarBack() {
        LiftBeams lift = new LiftBeams();
        lift.setNumber(4, 1);
        for (int thing = 0; thing < 12; thing++) {
            lift.pass(7, 1);
            lift.pass(0, 1);
        }
        int[] far = {10, 11, 858993459, 858993460, 1717986918, 1717986919, 1 << 28, 1 << 29, 1 << 30, Integer.MAX_VALUE};
        for (int back : far) {
            for (int what = 0; what < 5; what++) {
                Checks.due("judged " + back + ", " + what, lift.judged(back, what), LiftBeams.NONE);
            }
        }
    }

    // Promise 22: "Returns the ticks, up to 500; 0 if it is shut; NONE if it is not shut then."
    private static void shutsIn() {
        LiftBeams slowest = new LiftBeams();
        for (int which = 0; which < 3; which++) {
            slowest.setSpeed(which, Checks.bits(0.5f));
        }
        slowest.setNumber(0, 50);
        Checks.due("shut", slowest.shutsIn(), 0);
        slowest.call();
        Checks.due("the longest that there is", slowest.shutsIn(), 450);
        slowest.pass(0, 1);
        Checks.due("a tick less", slowest.shutsIn(), 449);
        LiftBeams quickest = Checks.quickClosing(5, 5);
        quickest.setSpeed(1, Checks.bits(50.0f));
        Checks.due("two ticks", quickest.shutsIn(), 2);
        quickest.pass(0, 1);
        Checks.due("one tick", quickest.shutsIn(), 1);
        quickest.pass(0, 1);
        Checks.due("none", quickest.shutsIn(), 0);
        LiftBeams called = Checks.quickClosing(0, 0);
        called.pass(7, 1);
        Checks.due("a call for service", called.shutsIn(), LiftBeams.NONE);
        called.pass(7, 1);
        Checks.due("and open", called.shutsIn(), LiftBeams.NONE);
    }

    // "all as in pass(), the thing that is there goes on"
    private static void shutsInGoesOnWithTheThing() {
        for (int gap = 1; gap <= 10; gap++) {
            for (int weight = 0; weight <= 4; weight += 4) {
                LiftBeams lift = Checks.quickClosing(0, 5);
                lift.setNumber(4, gap);
                lift.setWeight(0, Checks.bits(weight));
                lift.pass(7, 1);
                int forecast = lift.shutsIn();
                for (int left = forecast; left > 0; left--) {
                    Checks.due("not shut yet", lift.door(0) == 0 ? 1 : 0, 0);
                    Checks.due("the forecast", lift.shutsIn(), left);
                    lift.pass(0, 1);
                }
                Checks.due("shut", lift.door(0), 0);
                Checks.due("a forecast of slow closing", forecast > 16 + gap ? 1 : 0, weight == 0 ? 1 : 0);
            }
        }
    }

    // Promise 23: "beams: 0 to 7", "ticks: 0 to 99", "a NaN if an argument is out of range"
    private static void placeInRange() {
        LiftBeams lift = new LiftBeams();
        lift.setSpeed(0, Checks.bits(0.5f));
        lift.call();
        for (int ticks = -2; ticks <= 101; ticks++) {
            float due = ticks < 0 || ticks > 99 ? Float.NaN : 0.5f * ticks;
            Checks.dueFloat("placeIn 5, " + ticks, lift.placeIn(5, ticks), due);
        }
        for (int beams = -2; beams <= 9; beams++) {
            float due = beams < 0 || beams > 7 ? Float.NaN : 1.5f;
            Checks.dueFloat("placeIn " + beams, lift.placeIn(beams, 3), due);
        }
        for (int outside : new int[] {Integer.MIN_VALUE, Integer.MAX_VALUE}) {
            Checks.dueNaN("beams " + outside, lift.placeIn(outside, 0));
            Checks.dueNaN("ticks " + outside, lift.placeIn(0, outside));
        }
        Checks.dueFloat("the place is no forecast", lift.place(), 0.0f);
    }

    private static void placeInAsInPass() {
        for (int beams = 0; beams <= 7; beams++) {
            for (int ticks : new int[] {1, 2, 3, 4, 5, 20, 98, 99}) {
                LiftBeams lift = Checks.closing();
                lift.pass(0, 3);
                lift.pass(beams, 1);
                Checks.dueFloat("in no tick", lift.placeIn(beams, 0), lift.place());
                float forecast = lift.placeIn(beams, ticks);
                lift.pass(beams, ticks);
                Checks.dueFloat("in " + ticks + " of " + beams, lift.place(), forecast);
            }
        }
    }

    // "whatever the tick is"
    private static void forecastsWhateverTheTick() {
        for (int tick : new int[] {99950, 99998, 99999}) {
            LiftBeams lift = Checks.atTick(tick);
            Checks.due("a shut door", lift.shutsIn(), 0);
            lift.call();
            Checks.due("shutsIn()", lift.shutsIn(), 28);
            Checks.dueFloat("placeIn()", lift.placeIn(0, 27), 4.0f);
            Checks.dueFloat("placeIn() of all", lift.placeIn(7, 99), 100.0f);
            Checks.due("the tick", lift.count(0), tick);
        }
    }

    // Promise 24: "Returns the number; BAD_VALUE."
    private static void count() {
        LiftBeams lift = new LiftBeams();
        for (int what = 0; what <= 10; what++) {
            Checks.due("count " + what, lift.count(what), 0);
        }
        for (int what : new int[] {-1, 11, 12, Integer.MIN_VALUE, Integer.MAX_VALUE}) {
            Checks.due("count " + what, lift.count(what), LiftBeams.BAD_VALUE);
        }
    }

    // "5 .. (came to be shut), 6 for how often it opened again so far (this never becomes less)"
    private static void countsSoFar() {
        LiftBeams lift = Checks.quickClosing(0, 1);
        soFar("a door that was shut at first", lift, 0, 0, 0, 0);
        lift.pass(7, 1);
        soFar("it opens again", lift, 0, 1, 0, 1);
        lift.pass(0, 3);
        Checks.due("a leaf takes it back", lift.door(1), 0);
        soFar("behind a leaf", lift, 0, 1, 0, 1);
        lift.pass(7, 2);
        soFar("once more", lift, 0, 2, 0, 3);
        lift.pass(0, 3);
        Checks.due("the state", lift.pass(7, 1), 1);
        soFar("and it calls for service", lift, 0, 3, 1, 4);
        Checks.due("serve()", lift.serve(), 2);
        Checks.due("the count is 0", lift.door(1), 0);
        soFar("served", lift, 0, 3, 1, 4);
        Checks.due("shut", lift.pass(0, 40), 0);
        soFar("shut", lift, 1, 3, 1, 4);
        lift.pass(1, 2);
        soFar("still shut", lift, 1, 3, 1, 6);
        // As "a state is everything but the text, the history and the snapshot", undo() brings these back too.
        lift.undo();
        lift.undo();
        soFar("undo() of being shut", lift, 0, 3, 1, 4);
        lift.undo();
        lift.undo();
        soFar("undo() of opening again", lift, 0, 2, 0, 3);
    }

    private static void soFar(String when, LiftBeams lift, int shut, int again, int services, int broken) {
        int[] due = {shut, again, services, broken};
        for (int what = 5; what <= 8; what++) {
            Checks.due(when + ": count " + what, lift.count(what), due[what - 5]);
        }
    }
}
