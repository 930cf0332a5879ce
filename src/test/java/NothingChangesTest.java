import java.util.ArrayList;
import java.util.List;
import java.util.function.Consumer;
import java.util.function.Supplier;
import java.util.function.ToIntFunction;

/** "A call that returns an error or NONE changes nothing." - nor does a call that only tells. */
public final class NothingChangesTest {
    /** A call with the error that is due. */
    private record Refusal(String name, int due, ToIntFunction<LiftBeams> call) {
    }

    private static final int UNKNOWN = LiftBeams.UNKNOWN;
    private static final int BAD_VALUE = LiftBeams.BAD_VALUE;
    private static final int FULL = LiftBeams.FULL;
    private static final int NOT_POSSIBLE = LiftBeams.NOT_POSSIBLE;
    private static final int NONE = LiftBeams.NONE;

    public static void main(String[] args) {
        newObject();
        openingWithAFault();
        closingThatStands();
        lastTickAndAllFull();
        emptyHistory();
        Checks.finish("NothingChangesTest");
    }

    private static void newObject() {
        List<Refusal> refusals = refusedAnywhere();
        refusals.add(new Refusal("serve() without a call for service", NOT_POSSIBLE, LiftBeams::serve));
        refusals.add(new Refusal("readBeams() of the empty text", -100, LiftBeams::readBeams));
        refusals.add(new Refusal("undo() of none", NONE, LiftBeams::undo));
        refusals.add(new Refusal("restore() of none", NONE, LiftBeams::restore));
        refusals.add(new Refusal("thing() of none", NONE, lift -> lift.thing(0)));
        refusals.add(new Refusal("judged() of none", NONE, lift -> lift.judged(0, 0)));
        changeNothing("a new object", LiftBeams::new, refusals);
    }

    private static void openingWithAFault() {
        List<Refusal> refusals = refusedAnywhere();
        refusals.add(new Refusal("call() of an opening door", NOT_POSSIBLE, LiftBeams::call));
        refusals.add(new Refusal("serve() without a call for service", NOT_POSSIBLE, LiftBeams::serve));
        refusals.add(new Refusal("readBeams() with a fault", -107, LiftBeams::readBeams));
        refusals.add(new Refusal("restore() of none", NONE, LiftBeams::restore));
        changeNothing("an opening door", NothingChangesTest::opening, refusals);
    }

    private static void closingThatStands() {
        List<Refusal> refusals = refusedAnywhere();
        refusals.add(new Refusal("serve() without a call for service", NOT_POSSIBLE, LiftBeams::serve));
        refusals.add(new Refusal("readBeams() that ends too early", -104, LiftBeams::readBeams));
        refusals.add(new Refusal("judged() of none", NONE, lift -> lift.judged(2, 4)));
        changeNothing("a closing door", NothingChangesTest::closing, refusals);
    }

    private static void lastTickAndAllFull() {
        List<Refusal> refusals = refusedAnywhere();
        refusals.add(new Refusal("pass() for too long", FULL, lift -> lift.pass(0, 1)));
        refusals.add(new Refusal("pass() for far too long", FULL, lift -> lift.pass(7, 99)));
        refusals.add(new Refusal("readBeams() for too long", FULL, LiftBeams::readBeams));
        refusals.add(new Refusal("type() of a character more", FULL, lift -> lift.type('0')));
        refusals.add(new Refusal("shutsIn() never", NONE, LiftBeams::shutsIn));
        refusals.add(new Refusal("judged() of none", NONE, lift -> lift.judged(10, 0)));
        changeNothing("the last tick", NothingChangesTest::lastTick, refusals);
    }

    private static void emptyHistory() {
        List<Refusal> refusals = refusedAnywhere();
        refusals.add(new Refusal("undo() of none", NONE, LiftBeams::undo));
        refusals.add(new Refusal("thing() of none", NONE, lift -> lift.thing(7)));
        changeNothing("an empty history", NothingChangesTest::undone, refusals);
    }

    /** What is refused in every state, by each call that can refuse by its arguments alone. */
    private static List<Refusal> refusedAnywhere() {
        List<Refusal> refusals = new ArrayList<>();
        int one = Checks.bits(1.5f);
        refusals.add(new Refusal("setSpeed -1", UNKNOWN, lift -> lift.setSpeed(-1, one)));
        refusals.add(new Refusal("setSpeed 3", UNKNOWN, lift -> lift.setSpeed(3, one)));
        refusals.add(new Refusal("setWeight -1", UNKNOWN, lift -> lift.setWeight(-1, one)));
        refusals.add(new Refusal("setWeight 4", UNKNOWN, lift -> lift.setWeight(4, one)));
        refusals.add(new Refusal("setNumber -1", UNKNOWN, lift -> lift.setNumber(-1, 2)));
        refusals.add(new Refusal("setNumber 5", UNKNOWN, lift -> lift.setNumber(5, 2)));
        refusals.add(new Refusal("number 5", UNKNOWN, lift -> lift.number(5)));
        for (int which = 0; which < 3; which++) {
            addSpeed(refusals, which);
        }
        for (int kind = 0; kind < 4; kind++) {
            addWeight(refusals, kind);
        }
        int[] least = {1, 0, 0, 0, 1};
        int[] greatest = {50, 5, 5, 5, 10};
        for (int which = 0; which < 5; which++) {
            addNumber(refusals, which, least[which], greatest[which]);
        }
        refusals.add(new Refusal("pass -1", BAD_VALUE, lift -> lift.pass(-1, 1)));
        refusals.add(new Refusal("pass 8", BAD_VALUE, lift -> lift.pass(8, 1)));
        refusals.add(new Refusal("pass of 0", BAD_VALUE, lift -> lift.pass(7, 0)));
        refusals.add(new Refusal("pass of 100", BAD_VALUE, lift -> lift.pass(7, 100)));
        refusals.add(new Refusal("door 6", BAD_VALUE, lift -> lift.door(6)));
        refusals.add(new Refusal("thing 8", BAD_VALUE, lift -> lift.thing(8)));
        refusals.add(new Refusal("judged -1", BAD_VALUE, lift -> lift.judged(-1, 0)));
        refusals.add(new Refusal("count 11", BAD_VALUE, lift -> lift.count(11)));
        return refusals;
    }

    private static void addSpeed(List<Refusal> refusals, int which) {
        int[] bad = {0x3EFFFFFF, 0x42480001, 0x7FC00000, 0, -1};
        for (int bits : bad) {
            refusals.add(new Refusal("setSpeed of " + bits, BAD_VALUE, lift -> lift.setSpeed(which, bits)));
        }
        refusals.add(new Refusal("setSpeed as it is", NONE,
            lift -> lift.setSpeed(which, Checks.bits(lift.speed(which)))));
    }

    private static void addWeight(List<Refusal> refusals, int kind) {
        int[] bad = {Integer.MIN_VALUE, 0x40800001, 0x7FC00000, -1};
        for (int bits : bad) {
            refusals.add(new Refusal("setWeight of " + bits, BAD_VALUE, lift -> lift.setWeight(kind, bits)));
        }
        refusals.add(new Refusal("setWeight as it is", NONE,
            lift -> lift.setWeight(kind, Checks.bits(lift.weight(kind)))));
    }

    private static void addNumber(List<Refusal> refusals, int which, int least, int greatest) {
        refusals.add(new Refusal("setNumber too small", BAD_VALUE, lift -> lift.setNumber(which, least - 1)));
        refusals.add(new Refusal("setNumber too great", BAD_VALUE, lift -> lift.setNumber(which, greatest + 1)));
        refusals.add(new Refusal("setNumber as it is", NONE, lift -> lift.setNumber(which, lift.number(which))));
    }

    /** Compares an object that refused, or only told, with one that wasn't asked, by all that either tells later. */
    private static void changeNothing(String state, Supplier<LiftBeams> begin, List<Refusal> refusals) {
        for (Consumer<LiftBeams> later : later()) {
            LiftBeams unasked = begin.get();
            later.accept(unasked);
            Told want = Told.allOf(unasked);
            for (Refusal refusal : refusals) {
                LiftBeams lift = begin.get();
                String when = state + ", " + refusal.name();
                Checks.due(when, refusal.call().applyAsInt(lift), refusal.due());
                later.accept(lift);
                Told.allOf(lift).mustBe(when, want);
            }
            LiftBeams refusesAll = begin.get();
            refusals.forEach(refusal -> refusal.call().applyAsInt(refusesAll));
            later.accept(refusesAll);
            Told.allOf(refusesAll).mustBe(state + ", all that is refused", want);
            LiftBeams tells = begin.get();
            tellEach(tells);
            later.accept(tells);
            Told.allOf(tells).mustBe(state + ", all that is told", want);
        }
    }

    /** Acts that bring to light what isn't told at once: the history, the snapshot and the text. */
    private static List<Consumer<LiftBeams>> later() {
        List<Consumer<LiftBeams>> later = new ArrayList<>();
        for (int times = 0; times <= 4; times++) {
            int undone = times;
            later.add(lift -> undo(lift, undone));
        }
        later.add(LiftBeams::restore);
        later.add(lift -> {
            undo(lift, 4);
            lift.readBeams();
        });
        later.add(lift -> {
            undo(lift, 4);
            lift.type('1');
            lift.readBeams();
        });
        later.add(lift -> {
            lift.restore();
            lift.pass(3, 9);
            lift.pass(0, 4);
        });
        return later;
    }

    private static void undo(LiftBeams lift, int times) {
        for (int time = 0; time < times; time++) {
            lift.undo();
        }
    }

    private static void tellEach(LiftBeams lift) {
        lift.place();
        lift.shutsIn();
        for (int argument = -1; argument <= 11; argument++) {
            lift.speed(argument);
            lift.weight(argument);
            lift.score(argument);
            lift.number(argument);
            lift.door(argument);
            lift.thing(argument);
            lift.judged(argument, 4);
            lift.placeIn(argument, 9);
            lift.count(argument);
        }
        lift.placeIn(7, 99);
        lift.placeIn(0, 99);
        lift.placeIn(0, 100);
    }

    private static LiftBeams opening() {
        LiftBeams lift = Checks.withText("0*3,7*1x,0");
        lift.call();
        lift.pass(5, 3);
        return lift;
    }

    /** A closing door that stands, by the third thing, with a snapshot of the second. */
    private static LiftBeams closing() {
        LiftBeams lift = Checks.withText("7*1,");
        lift.pass(1, 4);
        lift.pass(0, 3);
        lift.call();
        lift.pass(6, 2);
        lift.keep();
        lift.pass(0, 15);
        lift.setWeight(2, Checks.bits(0.3f));
        lift.pass(3, 1);
        Checks.due("it is closing", lift.door(0), 3);
        Checks.due("it stands", lift.door(4), 1);
        return lift;
    }

    /** A call for service, a thing, eleven things judged, and a full text, history and snapshot, in the last tick. */
    private static LiftBeams lastTick() {
        LiftBeams lift = Checks.atTick(99700);
        lift.setNumber(0, 1);
        lift.setNumber(1, 0);
        lift.setNumber(2, 0);
        lift.setNumber(3, 0);
        lift.call();
        for (int thing = 0; thing < 11; thing++) {
            lift.pass(thing % 7 + 1, thing + 1);
            lift.pass(0, 3);
        }
        lift.keep();
        Checks.due("a call for service", lift.door(2), 1);
        lift.pass(5, 99);
        lift.pass(0, 3);
        lift.pass(7, 96);
        lift.pass(6, 99999 - lift.count(0));
        Checks.typeText(lift, "0*9,1*9,2*9,3*9,4*9,5*9,6*9,7*9,0*9,1*9,2*9,3*9,4*9,5*9,6*17");
        Checks.due("the length of the text", lift.count(10), 60);
        Checks.due("the last tick", lift.count(0), 99999);
        return lift;
    }

    private static LiftBeams undone() {
        LiftBeams lift = Checks.withText("7*3,0*4");
        lift.pass(7, 20);
        lift.pass(0, 3);
        lift.call();
        lift.keep();
        lift.pass(0, 7);
        lift.undo();
        lift.undo();
        lift.undo();
        lift.undo();
        Checks.due("the states", lift.count(9), 0);
        return lift;
    }
}
