import java.util.function.Consumer;
import java.util.function.Supplier;

/** The sentences of "History", and of undo, keep and restore, each at its boundaries. */
public final class HistoryEdgesTest {
    public static void main(String[] args) {
        emptyAtFirst();
        atMostFourStates();
        theOldestIsDropped();
        undoToTheLast();
        undoAndGoOn();
        actsRecord();
        othersRecordNothing();
        noSnapshotAtFirst();
        oneSnapshotInPlaceOfTheOther();
        snapshotStays();
        snapshotIsNoPartOfAState();
        historyIsNoPartOfAState();
        textIsNoPartOfAState();
        everythingElseIsPartOfAState();
        allOfTheLogIsPartOfAState();
        restoreOfTheSameStateIsAnAct();
        restoreIsTakenBack();
        keepAtEachTick();
        Checks.finish("HistoryEdgesTest");
    }

    // undo(): "NONE if the history is empty"
    private static void emptyAtFirst() {
        LiftBeams lift = new LiftBeams();
        Checks.due("the states", lift.count(9), 0);
        Checks.due("undo()", lift.undo(), LiftBeams.NONE);
        Checks.due("the states", lift.count(9), 0);
    }

    // "A history of at most 4 states is kept"
    private static void atMostFourStates() {
        for (int acts = 0; acts <= 9; acts++) {
            LiftBeams lift = afterActs(acts);
            int states = Math.min(acts, 4);
            Checks.due("the states of " + acts, lift.count(9), states);
            for (int left = states - 1; left >= 0; left--) {
                Checks.due("undo() of " + acts, lift.undo(), left);
                Checks.due("the states", lift.count(9), left);
            }
            Checks.due("undo() of none", lift.undo(), LiftBeams.NONE);
        }
    }

    // "when one more is recorded, the oldest one is dropped; undo() removes and restores the latest one"
    private static void theOldestIsDropped() {
        for (int acts = 1; acts <= 9; acts++) {
            LiftBeams lift = afterActs(acts);
            for (int back = 1; back <= Math.min(acts, 4); back++) {
                lift.undo();
                Checks.due("the tick of " + acts + ", back " + back, lift.count(0), acts - back);
            }
            Checks.due("undo()", lift.undo(), LiftBeams.NONE);
            Checks.due("the tick stays", lift.count(0), Math.max(0, acts - 4));
        }
    }

    // "Returns the number of states that are left"
    private static void undoToTheLast() {
        LiftBeams lift = afterActs(1);
        Checks.due("one is taken back, none is left", lift.undo(), 0);
        Checks.due("none", lift.undo(), LiftBeams.NONE);
        Checks.due("none again", lift.undo(), LiftBeams.NONE);
        Checks.due("the tick", lift.count(0), 0);
    }

    private static void undoAndGoOn() {
        LiftBeams lift = afterActs(6);
        lift.undo();
        lift.undo();
        Checks.due("the tick", lift.count(0), 4);
        lift.pass(0, 9);
        Checks.due("the states", lift.count(9), 3);
        Checks.due("undo() is no act, and not undone", lift.undo(), 2);
        Checks.due("the tick", lift.count(0), 4);
        for (int act = 1; act <= 3; act++) {
            lift.pass(0, 10);
        }
        Checks.due("the states", lift.count(9), 4);
        int[] ticks = {24, 14, 4, 3};
        for (int tick : ticks) {
            lift.undo();
            Checks.due("the tick", lift.count(0), tick);
        }
        Checks.due("the oldest one was dropped", lift.undo(), LiftBeams.NONE);
    }

    // "Each call of a method that is described as an act, and returns no error and not NONE, records .."
    private static void actsRecord() {
        records("setSpeed", LiftBeams::new, lift -> lift.setSpeed(0, Checks.bits(0.5f)));
        records("setWeight", LiftBeams::new, lift -> lift.setWeight(3, 0));
        records("setNumber", LiftBeams::new, lift -> lift.setNumber(4, 10));
        records("call of a shut door", LiftBeams::new, lift -> lift.call());
        records("call of an open door", HistoryEdgesTest::open, lift -> lift.call());
        records("call of a closing door", Checks::closing, lift -> lift.call());
        records("serve", HistoryEdgesTest::withService, lift -> lift.serve());
        records("pass", LiftBeams::new, lift -> lift.pass(6, 2));
        records("a clear pass", LiftBeams::new, lift -> lift.pass(0, 1));
        records("pass of a closing door", Checks::closing, lift -> lift.pass(3, 2));
        records("readBeams", () -> Checks.withText("3,0*2,5*4"), lift -> lift.readBeams());
        records("restore", HistoryEdgesTest::kept, lift -> lift.restore());
    }

    private static void records(String act, Supplier<LiftBeams> begin, Consumer<LiftBeams> call) {
        LiftBeams lift = begin.get();
        int states = lift.count(9);
        Told before = Told.stateOf(lift);
        call.accept(lift);
        Checks.due("the states behind " + act, lift.count(9), Math.min(4, states + 1));
        Checks.due(act + " changes the state", Told.stateOf(lift).differs(before) ? 1 : 0, 1);
        Checks.due("undo() of " + act, lift.undo(), Math.min(3, states));
        Told.stateOf(lift).mustBe("behind undo() of " + act, before);
    }

    private static LiftBeams open() {
        LiftBeams lift = new LiftBeams();
        lift.call();
        lift.pass(0, 12);
        return lift;
    }

    private static LiftBeams withService() {
        LiftBeams lift = Checks.quickClosing(0, 0);
        lift.pass(7, 1);
        return lift;
    }

    private static LiftBeams kept() {
        LiftBeams lift = Checks.closing();
        lift.keep();
        lift.pass(7, 9);
        return lift;
    }

    // type(), clearText(), undo() and keep() are described as no acts, nor is what is told.
    private static void othersRecordNothing() {
        for (int states = 0; states <= 4; states++) {
            LiftBeams lift = afterActs(states);
            lift.type('0');
            lift.type('1');
            Checks.due("behind type()", lift.count(9), states);
            lift.clearText();
            Checks.due("behind clearText()", lift.count(9), states);
            lift.keep();
            Checks.due("behind keep()", lift.count(9), states);
            Told.allOf(lift);
            Checks.due("behind all that is told", lift.count(9), states);
            lift.undo();
            Checks.due("behind undo()", lift.count(9), Math.max(0, states - 1));
        }
    }

    // "There is one snapshot, empty at first." - "NONE if there is no snapshot"
    private static void noSnapshotAtFirst() {
        for (int acts = 0; acts <= 5; acts++) {
            LiftBeams lift = afterActs(acts);
            Checks.due("restore()", lift.restore(), LiftBeams.NONE);
            Checks.due("the tick", lift.count(0), acts);
            Checks.due("the states", lift.count(9), Math.min(acts, 4));
            Checks.due("keep()", lift.keep(), acts);
            Checks.due("restore() then", lift.restore(), acts);
        }
    }

    // "Takes a snapshot of the state, in place of the one that was."
    private static void oneSnapshotInPlaceOfTheOther() {
        LiftBeams lift = afterActs(1);
        Checks.due("keep()", lift.keep(), 1);
        lift.pass(0, 1);
        Checks.due("keep() again", lift.keep(), 2);
        lift.pass(0, 1);
        Checks.due("the latest one", lift.restore(), 2);
        Checks.due("no other one", lift.restore(), 2);
    }

    // "Restores the state of the snapshot, which stays."
    private static void snapshotStays() {
        LiftBeams lift = Checks.closing();
        lift.pass(3, 1);
        lift.keep();
        Told kept = Told.stateOf(lift);
        for (int time = 1; time <= 3; time++) {
            lift.pass(7, 20 * time);
            lift.setSpeed(0, Checks.bits(time));
            lift.setNumber(4, 10);
            Checks.due("restore()", lift.restore(), 16);
            Told.stateOf(lift).mustBe("behind restore() " + time, kept);
        }
    }

    // "A state is everything but the text, the history and the snapshot."
    private static void snapshotIsNoPartOfAState() {
        LiftBeams lift = afterActs(3);
        lift.keep();
        lift.undo();
        lift.undo();
        Checks.due("undo() leaves the snapshot", lift.restore(), 3);
        lift.undo();
        Checks.due("the tick", lift.count(0), 1);
        lift.keep();
        lift.pass(0, 5);
        lift.undo();
        lift.undo();
        Checks.due("nor does it bring one back", lift.restore(), 1);
    }

    private static void historyIsNoPartOfAState() {
        LiftBeams lift = new LiftBeams();
        lift.keep();
        lift.pass(0, 1);
        lift.pass(0, 1);
        Checks.due("restore()", lift.restore(), 0);
        Checks.due("the history stays, with one more", lift.count(9), 3);
        Checks.due("undo()", lift.undo(), 2);
        Checks.due("the tick", lift.count(0), 2);
        Checks.due("undo()", lift.undo(), 1);
        Checks.due("the tick", lift.count(0), 1);
    }

    private static void textIsNoPartOfAState() {
        LiftBeams lift = Checks.withText("1,2");
        lift.keep();
        lift.pass(0, 1);
        lift.type('*');
        lift.type('7');
        lift.undo();
        Checks.due("undo() leaves the text", lift.readBeams(), 8);
        lift.clearText();
        lift.type('3');
        lift.restore();
        Checks.due("restore() leaves the text", lift.readBeams(), 1);
        Checks.due("its length", lift.count(10), 1);
    }

    private static void everythingElseIsPartOfAState() {
        int[] judgedAsEachKind = {0, 1, 2, 3, 4, 6, 7, 8};
        restoresAll("0*3,7*9,0*3,1*9,0*3,4*9,0*3,6", judgedAsEachKind);
        int[] shut = {0, 1, 5};
        restoresAll("0*30", shut);
    }

    /** The text must let these counts grow, so that undo() and restore() have something to bring back. */
    private static void restoresAll(String text, int[] growing) {
        LiftBeams lift = opensAgainAndServed();
        Checks.typeText(lift, text);
        Told before = Told.stateOf(lift);
        int[] counts = countsOf(lift);
        lift.keep();
        lift.readBeams();
        for (int what : growing) {
            Checks.due("count " + what + " grows by " + text, lift.count(what) > counts[what] ? 1 : 0, 1);
        }
        Checks.due("the thing is another one", lift.thing(4) == 3 ? 1 : 0, 0);
        lift.undo();
        Told.stateOf(lift).mustBe("behind undo() of " + text, before);
        lift.readBeams();
        lift.restore();
        Told.stateOf(lift).mustBe("behind restore(), " + text, before);
    }

    /** A door that is opening again, with a thing that began in tick 3, a call for service, and served. */
    private static LiftBeams opensAgainAndServed() {
        LiftBeams lift = withService();
        Checks.due("the thing began", lift.thing(4), 3);
        lift.serve();
        return lift;
    }

    private static int[] countsOf(LiftBeams lift) {
        int[] counts = new int[9];
        for (int what = 0; what < counts.length; what++) {
            counts[what] = lift.count(what);
        }
        return counts;
    }

    private static void allOfTheLogIsPartOfAState() {
        for (int things = 0; things <= 11; things++) {
            LiftBeams lift = new LiftBeams();
            lift.setNumber(4, 1);
            for (int thing = 1; thing <= things; thing++) {
                lift.pass(thing % 7 + 1, thing);
                lift.pass(0, 1);
            }
            Told before = Told.stateOf(lift);
            Checks.typeText(lift, "6*2,0,5*3,0,4*4,0,3*5,0,2*6,0,1*7,0,6*8,0,5*9,0,4,0,3,0,2,0");
            lift.keep();
            Checks.due("readBeams()", lift.readBeams(), 58);
            Checks.due("the oldest one known", lift.judged(9, 2), 3);
            lift.undo();
            Told.stateOf(lift).mustBe("behind undo() of a log of " + things, before);
            lift.readBeams();
            lift.restore();
            Told.stateOf(lift).mustBe("behind restore() of a log of " + things, before);
        }
    }

    private static void restoreOfTheSameStateIsAnAct() {
        LiftBeams lift = new LiftBeams();
        lift.keep();
        for (int time = 1; time <= 6; time++) {
            Checks.due("restore()", lift.restore(), 0);
            Checks.due("the states", lift.count(9), Math.min(time, 4));
        }
    }

    private static void restoreIsTakenBack() {
        LiftBeams lift = Checks.closing();
        lift.keep();
        lift.pass(5, 30);
        lift.pass(0, 8);
        Told before = Told.stateOf(lift);
        lift.restore();
        Checks.due("undo()", lift.undo(), 3);
        Told.stateOf(lift).mustBe("behind undo() of restore()", before);
    }

    // keep(): "Returns the tick." - restore(): "Returns the tick then"
    private static void keepAtEachTick() {
        LiftBeams lift = new LiftBeams();
        for (int tick = 0; tick <= 40; tick++) {
            Checks.due("keep()", lift.keep(), tick);
            lift.pass(7, 33);
            Checks.due("restore()", lift.restore(), tick);
            lift.pass(0, 1);
        }
    }

    /** A new object behind this many ticks, an act each. */
    private static LiftBeams afterActs(int acts) {
        LiftBeams lift = new LiftBeams();
        for (int act = 1; act <= acts; act++) {
            lift.pass(act % 8, 1);
        }
        Checks.due("the tick to begin with", lift.count(0), acts);
        return lift;
    }
}
