/** Promises 9 to 13: type, clearText, undo, keep and restore. */
public final class TextsAndHistoryTest {
    public static void main(String[] args) {
        type();
        clearText();
        textsAreNoActs();
        undo();
        undoRestoresAllOfAState();
        undoRestoresEachSetting();
        undoRestoresEachCount();
        undoRestoresAllOfTheLog();
        errorsRecordNothing();
        keep();
        restore();
        restoreIsAnAct();
        snapshotStaysAsItWas();
        Checks.finish("TextsAndHistoryTest");
    }

    private static void type() {
        LiftBeams lift = new LiftBeams();
        for (int length = 1; length <= 60; length++) {
            Checks.due("type()", lift.type((char) (length * 1091)), length);
            Checks.due("the length", lift.count(10), length);
        }
        Checks.due("a character more", lift.type('0'), LiftBeams.FULL);
        Checks.due("the length", lift.count(10), 60);
    }

    private static void clearText() {
        LiftBeams lift = new LiftBeams();
        Checks.due("clearText() of none", lift.clearText(), 0);
        Checks.typeText(lift, "12345");
        Checks.due("clearText()", lift.clearText(), 5);
        Checks.due("the length", lift.count(10), 0);
        Checks.due("clearText() again", lift.clearText(), 0);
        Checks.due("readBeams() of none", lift.readBeams(), -100);
        Checks.due("type() after it", lift.type('3'), 1);
        Checks.due("readBeams()", lift.readBeams(), 1);
        Checks.due("the low beam", lift.thing(1), 1);
    }

    private static void textsAreNoActs() {
        LiftBeams lift = Checks.withText("12");
        lift.clearText();
        Checks.due("the states", lift.count(9), 0);
        lift.call();
        lift.type('1');
        Checks.due("undo()", lift.undo(), 0);
        Checks.due("undo() leaves the text", lift.count(10), 1);
        lift.keep();
        lift.type('2');
        lift.restore();
        Checks.due("restore() leaves the text", lift.count(10), 2);
    }

    private static void undo() {
        LiftBeams lift = new LiftBeams();
        Checks.due("undo() of none", lift.undo(), LiftBeams.NONE);
        for (int act = 1; act <= 6; act++) {
            lift.pass(0, act);
            Checks.due("the states", lift.count(9), Math.min(act, 4));
        }
        int[] ticks = {15, 10, 6, 3};
        for (int back = 0; back < 4; back++) {
            Checks.due("undo()", lift.undo(), 3 - back);
            Checks.due("the tick", lift.count(0), ticks[back]);
        }
        Checks.due("undo() of what was dropped", lift.undo(), LiftBeams.NONE);
        Checks.due("the tick", lift.count(0), 3);
        lift.pass(0, 7);
        Checks.due("undo() after acts", lift.undo(), 0);
        Checks.due("the tick", lift.count(0), 3);
    }

    private static void undoRestoresAllOfAState() {
        LiftBeams lift = Checks.closing();
        lift.pass(3, 2);
        Told before = Told.stateOf(lift);
        Checks.due("a call in between", lift.call(), LiftBeams.NOT_POSSIBLE);
        lift.pass(0, 50);
        lift.undo();
        Told.stateOf(lift).mustBe("after undo() of pass()", before);
        lift.setSpeed(2, Checks.bits(7.0f));
        lift.undo();
        lift.setWeight(2, Checks.bits(0.7f));
        lift.undo();
        lift.setNumber(4, 9);
        lift.undo();
        Told.stateOf(lift).mustBe("after undo() of the settings", before);
        lift.pass(0, 3);
        before = Told.stateOf(lift);
        lift.pass(1, 9);
        lift.pass(0, 3);
        lift.undo();
        lift.undo();
        Told.stateOf(lift).mustBe("after undo() of a thing that was judged", before);
    }

    private static void undoRestoresEachSetting() {
        Told before = Told.stateOf(new LiftBeams());
        int[] values = {7, 3, 3, 3, 7};
        for (int which = 0; which < 5; which++) {
            LiftBeams lift = new LiftBeams();
            lift.setNumber(which, values[which]);
            lift.undo();
            Told.stateOf(lift).mustBe("after undo() of number " + which, before);
        }
        for (int kind = 0; kind < 4; kind++) {
            LiftBeams lift = new LiftBeams();
            lift.setWeight(kind, Checks.bits(2.5f));
            lift.undo();
            Told.stateOf(lift).mustBe("after undo() of weight " + kind, before);
        }
        for (int which = 0; which < 3; which++) {
            LiftBeams lift = new LiftBeams();
            lift.setSpeed(which, Checks.bits(2.5f));
            lift.undo();
            Told.stateOf(lift).mustBe("after undo() of speed " + which, before);
        }
    }

    private static void undoRestoresEachCount() {
        LiftBeams lift = Checks.quickClosing(0, 0);
        lift.pass(7, 9);
        lift.pass(0, 3);
        Checks.due("a person", lift.judged(0, 0), 3);
        Checks.due("a call for service", lift.door(2), 1);
        Told before = Told.stateOf(lift);
        lift.pass(7, 7);
        lift.pass(0, 3);
        lift.serve();
        lift.undo();
        lift.undo();
        lift.undo();
        Told.stateOf(lift).mustBe("after undo() of a person and serve()", before);
        lift.undo();
        Checks.due("no person judged", lift.count(4), 0);
        Checks.due("the thing began", lift.thing(4), 3);
        Checks.due("no undo() is left", lift.count(9), 0);
        LiftBeams called = Checks.quickClosing(0, 0);
        called.pass(7, 1);
        called.undo();
        Checks.due("no call for service so far", called.count(7), 0);
        Checks.due("no call for service", called.door(2), 0);
        called.pass(0, 5);
        called.pass(2, 1);
        called.keep();
        called.pass(0, 3);
        called.pass(2, 1);
        called.restore();
        Checks.due("the thing of the snapshot began", called.thing(4), 8);
    }

    private static void undoRestoresAllOfTheLog() {
        LiftBeams lift = Checks.withText("1,0*3,2*2,0*3,3*3,0*3,4*4,0*3,5*5,0*3,6*6,0*3,7*7,0*3,1*8,0");
        lift.pass(4, 2);
        lift.pass(0, 3);
        lift.readBeams();
        lift.pass(0, 3);
        lift.pass(5, 5);
        lift.pass(0, 3);
        int[] before = tellLog(lift);
        Checks.due("10 things are known", before[49], 4);
        lift.pass(7, 1);
        lift.pass(0, 3);
        Checks.due("another one is the oldest", lift.judged(9, 1), 5);
        lift.undo();
        same("after undo()", tellLog(lift), before);
    }

    private static int[] tellLog(LiftBeams lift) {
        int[] told = new int[55];
        for (int row = 0; row < told.length; row++) {
            told[row] = lift.judged(row / 5, row % 5);
        }
        return told;
    }

    private static void errorsRecordNothing() {
        LiftBeams lift = new LiftBeams();
        lift.setSpeed(3, 0);
        lift.setSpeed(0, 0);
        lift.setSpeed(0, Checks.bits(10.0f));
        lift.setWeight(4, 0);
        lift.setWeight(0, -1);
        lift.setWeight(0, Checks.bits(1.0f));
        lift.setNumber(5, 0);
        lift.setNumber(0, 0);
        lift.setNumber(0, 5);
        lift.serve();
        lift.pass(0, 0);
        lift.readBeams();
        lift.restore();
        lift.keep();
        lift.shutsIn();
        lift.placeIn(7, 9);
        lift.undo();
        Checks.due("the states", lift.count(9), 0);
        Checks.due("the tick", lift.count(0), 0);
    }

    private static void keep() {
        LiftBeams lift = new LiftBeams();
        Checks.due("keep()", lift.keep(), 0);
        lift.pass(5, 33);
        Checks.due("keep() is no act", lift.count(9), 1);
        Checks.due("keep()", lift.keep(), 33);
        Checks.due("keep() again", lift.keep(), 33);
        lift.pass(5, 1);
        Checks.due("the latest snapshot", lift.restore(), 33);
    }

    private static void restore() {
        LiftBeams lift = Checks.closing();
        Checks.due("restore() of none", lift.restore(), LiftBeams.NONE);
        lift.pass(6, 1);
        lift.setNumber(2, 4);
        Told before = Told.stateOf(lift);
        Checks.due("keep()", lift.keep(), 16);
        lift.pass(6, 30);
        lift.pass(0, 30);
        lift.setNumber(2, 1);
        lift.setSpeed(1, Checks.bits(1.0f));
        Checks.due("restore()", lift.restore(), 16);
        Told.stateOf(lift).mustBe("after restore()", before);
        lift.pass(1, 1);
        Checks.due("the snapshot stays", lift.restore(), 16);
        Told.stateOf(lift).mustBe("after restore() again", before);
    }

    private static void restoreIsAnAct() {
        LiftBeams lift = new LiftBeams();
        lift.keep();
        Checks.due("restore() of the same", lift.restore(), 0);
        Checks.due("it is an act", lift.count(9), 1);
        lift.pass(0, 8);
        lift.restore();
        Checks.due("the states", lift.count(9), 3);
        Checks.due("undo()", lift.undo(), 2);
        Checks.due("the tick ahead of restore()", lift.count(0), 8);
        lift.pass(0, 1);
        lift.pass(0, 1);
        lift.restore();
        lift.restore();
        Checks.due("at most 4 states", lift.count(9), 4);
    }

    private static void snapshotStaysAsItWas() {
        LiftBeams lift = new LiftBeams();
        lift.pass(7, 1);
        lift.keep();
        lift.undo();
        Checks.due("the tick", lift.count(0), 0);
        Checks.due("undo() leaves the snapshot", lift.restore(), 1);
        Checks.due("the history is no part of it", lift.count(9), 1);
        lift.pass(7, 5);
        Checks.due("nor is it changed", lift.restore(), 1);
        Checks.due("the length", lift.thing(0), 1);
    }

    private static void same(String what, int[] got, int[] want) {
        for (int i = 0; i < want.length; i++) {
            Checks.due(what + ": row " + i, got[i], want[i]);
        }
    }
}
