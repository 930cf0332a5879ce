/** Promises 5 to 8, and the door and the things in a tick: call, serve, pass and readBeams. */
public final class DoorTest {
    public static void main(String[] args) {
        callByState();
        callOfAnOpenDoorStartsTheWaitAnew();
        serve();
        serveWhenTheCountIsLess();
        passRefuses();
        passOpensWaitsAndCloses();
        openFitsExactlyOrIsCut();
        brokenBeamsKeepTheDoorOpen();
        patience();
        brokenBeamsHoldTheDoorWhileItIsPatient();
        standsAnewWhenItClosesAnew();
        closesSlowlyBehindTheLimit();
        callsForServiceBehindTheRest();
        serviceKeepsTheDoorOpen();
        leafTakesOneBackOnce();
        leafTakesNothingBackBelowZero();
        leafTakesBackOnlyWhatItCaused();
        otherKindsTakeNothingBack();
        leafIsJudgedAheadOfTheDoor();
        readBeamsPasses();
        readBeamsIsOneAct();
        faults();
        faultsOfStrangeCharacters();
        theLastTick();
        Checks.finish("DoorTest");
    }

    private static void callByState() {
        LiftBeams lift = new LiftBeams();
        Checks.due("call() of a shut door", lift.call(), 0);
        Checks.due("the state", lift.door(0), 1);
        Checks.due("call() of an opening door", lift.call(), LiftBeams.NOT_POSSIBLE);
        Checks.due("the states of one act", lift.count(9), 1);
        LiftBeams closing = Checks.closing();
        closing.pass(0, 2);
        Checks.due("call() of a closing door", closing.call(), 3);
        Checks.due("the state", closing.door(0), 1);
        Checks.dueFloat("the place", closing.place(), 84.0f);
        Checks.due("no opening again", closing.door(1), 0);
        Checks.due("no opening again so far", closing.count(6), 0);
        Checks.due("the states of four acts", closing.count(9), 4);
        closing.undo();
        Checks.due("the state after undo()", closing.door(0), 3);
    }

    private static void callOfAnOpenDoorStartsTheWaitAnew() {
        LiftBeams lift = new LiftBeams();
        lift.call();
        lift.pass(0, 14);
        Checks.due("the ticks waited", lift.door(3), 4);
        Checks.due("call() of an open door", lift.call(), 2);
        Checks.due("the ticks waited", lift.door(3), 0);
        Checks.due("call() that changes nothing", lift.call(), 2);
        Checks.due("it is an act though", lift.count(9), 4);
        Checks.due("after 4 ticks", lift.pass(0, 4), 2);
        Checks.due("after 5 ticks", lift.pass(0, 1), 3);
    }

    private static void serve() {
        LiftBeams lift = Checks.quickClosing(0, 1);
        Checks.due("serve() for nothing", lift.serve(), LiftBeams.NOT_POSSIBLE);
        lift.pass(7, 1);
        Checks.due("one opening again is not more than 0 + 1", lift.serve(), LiftBeams.NOT_POSSIBLE);
        lift.pass(7, 3);
        lift.pass(0, 1);
        Checks.due("it closes again", lift.door(0), 3);
        Checks.due("it opens again", lift.pass(7, 1), 1);
        Checks.due("a call for service", lift.door(2), 1);
        int before = lift.count(0);
        Checks.due("serve()", lift.serve(), 2);
        Checks.due("no call for service", lift.door(2), 0);
        Checks.due("the count", lift.door(1), 0);
        Checks.due("the count so far", lift.count(6), 2);
        Checks.due("the calls so far", lift.count(7), 1);
        Checks.due("the tick", lift.count(0), before);
        Checks.due("serve() again", lift.serve(), LiftBeams.NOT_POSSIBLE);
        Checks.due("undo() of an act", lift.undo(), 3);
        Checks.due("a call for service after undo()", lift.door(2), 1);
        Checks.due("the count after undo()", lift.door(1), 2);
    }

    private static void serveWhenTheCountIsLess() {
        LiftBeams lift = Checks.quickClosing(0, 0);
        lift.pass(7, 1);
        Checks.due("the count", lift.door(1), 1);
        lift.pass(0, 3);
        Checks.due("the count after the leaf", lift.door(1), 0);
        Checks.due("the call for service stays", lift.door(2), 1);
        Checks.due("serve()", lift.serve(), 0);
    }

    private static void passRefuses() {
        LiftBeams lift = new LiftBeams();
        int[][] bad = {{-1, 1}, {8, 1}, {0, 0}, {0, -1}, {0, 100}, {7, 100},
            {Integer.MIN_VALUE, 1}, {Integer.MAX_VALUE, 1}, {0, Integer.MAX_VALUE}, {0, Integer.MIN_VALUE}};
        for (int[] pair : bad) {
            Checks.due("pass " + pair[0] + ", " + pair[1], lift.pass(pair[0], pair[1]), LiftBeams.BAD_VALUE);
        }
        Checks.due("the tick", lift.count(0), 0);
        Checks.due("the states of no act", lift.count(9), 0);
        Checks.due("99 ticks", lift.pass(7, 99), 0);
        Checks.due("the tick", lift.count(0), 99);
        Checks.due("the states of one act", lift.count(9), 1);
    }

    private static void passOpensWaitsAndCloses() {
        LiftBeams lift = new LiftBeams();
        Checks.due("a shut door", lift.pass(0, 99), 0);
        lift.call();
        Checks.due("9 ticks", lift.pass(0, 9), 1);
        Checks.dueFloat("the place", lift.place(), 90.0f);
        Checks.due("10 ticks", lift.pass(0, 1), 2);
        Checks.dueFloat("the place", lift.place(), 100.0f);
        Checks.due("waited", lift.door(3), 0);
        Checks.due("4 ticks of the wait", lift.pass(0, 4), 2);
        Checks.due("waited", lift.door(3), 4);
        Checks.due("5 ticks of the wait", lift.pass(0, 1), 3);
        Checks.due("waited, when it is not open", lift.door(3), 0);
        Checks.dueFloat("the place", lift.place(), 100.0f);
        Checks.due("12 ticks of closing", lift.pass(0, 12), 3);
        Checks.dueFloat("the place", lift.place(), 4.0f);
        Checks.due("the door is shut", lift.pass(0, 1), 0);
        Checks.dueFloat("the place", lift.place(), 0.0f);
        Checks.due("how often it was shut", lift.count(5), 1);
    }

    private static void openFitsExactlyOrIsCut() {
        LiftBeams lift = new LiftBeams();
        lift.setSpeed(0, Checks.bits(30.0f));
        lift.setSpeed(1, Checks.bits(50.0f));
        lift.setNumber(0, 1);
        lift.call();
        Checks.due("90.0f", lift.pass(0, 3), 1);
        Checks.due("120.0f is cut", lift.pass(0, 1), 2);
        Checks.dueFloat("the place", lift.place(), 100.0f);
        Checks.due("one tick is the dwell", lift.pass(0, 1), 3);
        Checks.due("50.0f", lift.pass(0, 1), 3);
        Checks.due("0.0f is shut", lift.pass(0, 1), 0);
        Checks.dueFloat("the place", lift.place(), 0.0f);
    }

    private static void brokenBeamsKeepTheDoorOpen() {
        LiftBeams lift = new LiftBeams();
        lift.call();
        Checks.due("broken beams don't hinder the opening", lift.pass(7, 10), 2);
        lift.pass(0, 4);
        Checks.due("broken", lift.pass(4, 1), 2);
        Checks.due("waited", lift.door(3), 0);
        lift.pass(0, 4);
        Checks.due("waited", lift.door(3), 4);
        lift.setNumber(0, 2);
        Checks.due("more than the dwell", lift.pass(0, 1), 3);
    }

    private static void patience() {
        for (int patience = 0; patience <= 5; patience++) {
            LiftBeams lift = Checks.closing();
            lift.pass(0, 1);
            lift.setNumber(1, patience);
            if (patience > 0) {
                Checks.due("as many as the patience", lift.pass(1, patience), 3);
            }
            Checks.due("stood", lift.door(4), patience);
            Checks.due("one more", lift.pass(1, 1), 1);
            Checks.due("stood, when it is not closing", lift.door(4), 0);
            Checks.due("the count", lift.door(1), 1);
            Checks.due("the count so far", lift.count(6), 1);
            Checks.due("the cause", lift.thing(6), 1);
            Checks.dueFloat("it does not move yet", lift.place(), 92.0f);
            lift.pass(1, 1);
            Checks.dueFloat("it opens", lift.place(), 100.0f);
        }
    }

    private static void brokenBeamsHoldTheDoorWhileItIsPatient() {
        LiftBeams lift = Checks.closing();
        lift.pass(0, 1);
        lift.pass(2, 1);
        Checks.due("stood", lift.door(4), 1);
        Checks.dueFloat("the place stays", lift.place(), 92.0f);
        lift.pass(0, 1);
        Checks.due("stood, after a clear tick", lift.door(4), 0);
        Checks.dueFloat("the place", lift.place(), 84.0f);
        Checks.due("stands anew", lift.pass(2, 1), 3);
        Checks.due("no opening again", lift.count(6), 0);
        Checks.due("no cause", lift.thing(6), 0);
    }

    private static void standsAnewWhenItClosesAnew() {
        LiftBeams lift = Checks.closing();
        lift.pass(2, 2);
        lift.pass(0, 6);
        Checks.due("it closes again", lift.door(0), 3);
        Checks.due("stood", lift.door(4), 0);
        Checks.due("it is patient again", lift.pass(2, 1), 3);
        Checks.due("stood", lift.door(4), 1);
    }

    private static void closesSlowlyBehindTheLimit() {
        LiftBeams lift = Checks.quickClosing(1, 5);
        lift.pass(7, 1);
        Checks.dueFloat("as often as the limit", lift.speed(3), 8.0f);
        lift.pass(7, 3);
        lift.pass(0, 1);
        lift.pass(7, 1);
        Checks.due("the count", lift.door(1), 2);
        Checks.dueFloat("more than the limit", lift.speed(3), 2.0f);
        lift.pass(7, 3);
        lift.pass(0, 1);
        Checks.due("it closes", lift.door(0), 3);
        lift.pass(0, 1);
        Checks.dueFloat("the place", lift.place(), 98.0f);
        lift.setNumber(2, 2);
        lift.pass(0, 1);
        Checks.dueFloat("no more than a new limit", lift.place(), 90.0f);
        lift.pass(0, 12);
        Checks.due("it is shut", lift.door(0), 0);
        Checks.due("the count of a shut door", lift.door(1), 0);
        Checks.due("the count so far", lift.count(6), 2);
    }

    private static void callsForServiceBehindTheRest() {
        LiftBeams lift = Checks.quickClosing(1, 1);
        for (int time = 1; time <= 3; time++) {
            Checks.due("it opens again", lift.pass(7, 1), 1);
            Checks.due("the count", lift.door(1), time);
            Checks.due("a call for service", lift.door(2), time == 3 ? 1 : 0);
            Checks.due("calls so far", lift.count(7), time == 3 ? 1 : 0);
            lift.pass(7, 3);
            lift.pass(0, 1);
        }
    }

    private static void serviceKeepsTheDoorOpen() {
        LiftBeams lift = Checks.quickClosing(0, 0);
        lift.pass(7, 1);
        Checks.due("it stays open", lift.pass(0, 60), 2);
        Checks.due("it waits though", lift.door(3), 59);
        lift.serve();
        Checks.due("it waited long enough", lift.pass(0, 1), 3);
    }

    private static void leafTakesOneBackOnce() {
        LiftBeams lift = Checks.quickClosing(5, 5);
        lift.setWeight(0, Checks.bits(4.0f));
        lift.setNumber(4, 4);
        lift.pass(1, 1);
        lift.pass(0, 3);
        Checks.due("it closes again", lift.door(0), 3);
        lift.pass(1, 1);
        Checks.due("the count", lift.door(1), 2);
        Checks.due("the same thing", lift.thing(0), 2);
        lift.pass(0, 3);
        Checks.due("it is not judged yet", lift.door(1), 2);
        lift.pass(0, 1);
        Checks.due("a leaf", lift.judged(0, 0), 0);
        Checks.due("one less", lift.door(1), 1);
        Checks.due("the count so far never becomes less", lift.count(6), 2);
    }

    private static void leafTakesNothingBackBelowZero() {
        LiftBeams lift = Checks.quickClosing(0, 0);
        lift.pass(7, 1);
        Checks.due("serve()", lift.serve(), 1);
        lift.pass(0, 3);
        Checks.due("a leaf", lift.judged(0, 0), 0);
        Checks.due("not below 0", lift.door(1), 0);
    }

    private static void leafTakesBackOnlyWhatItCaused() {
        LiftBeams lift = Checks.quickClosing(5, 5);
        lift.pass(5, 20);
        Checks.due("the count", lift.door(1), 1);
        lift.setNumber(0, 50);
        lift.pass(0, 3);
        Checks.due("no leaf", lift.judged(0, 0), 1);
        lift.pass(7, 1);
        Checks.due("a thing that caused nothing", lift.thing(6), 0);
        lift.pass(0, 3);
        Checks.due("a leaf", lift.judged(0, 0), 0);
        Checks.due("the count", lift.door(1), 1);
    }

    private static void otherKindsTakeNothingBack() {
        LiftBeams lift = Checks.quickClosing(5, 5);
        lift.setWeight(0, 0);
        lift.pass(7, 1);
        lift.pass(0, 3);
        Checks.due("a person", lift.judged(0, 0), 3);
        Checks.due("the count", lift.door(1), 1);
    }

    private static void leafIsJudgedAheadOfTheDoor() {
        LiftBeams lift = Checks.quickClosing(0, 5);
        lift.setNumber(4, 4);
        lift.pass(7, 1);
        lift.pass(0, 3);
        Checks.due("it is closing", lift.door(0), 3);
        Checks.dueFloat("it closes slowly", lift.speed(3), 2.0f);
        Checks.dueFloat("the place", lift.place(), 98.0f);
        lift.pass(0, 1);
        Checks.due("a leaf", lift.judged(0, 0), 0);
        Checks.dueFloat("in the tick of the leaf it closes fast", lift.place(), 90.0f);
    }

    private static void readBeamsPasses() {
        LiftBeams read = Checks.withText("7*2,0*13,1,6*99,3*10,0*1");
        LiftBeams passed = new LiftBeams();
        read.call();
        passed.call();
        Checks.due("readBeams()", read.readBeams(), 126);
        int[][] parts = {{7, 2}, {0, 13}, {1, 1}, {6, 99}, {3, 10}, {0, 1}};
        for (int[] part : parts) {
            passed.pass(part[0], part[1]);
        }
        for (int what = 0; what < 9; what++) {
            Checks.due("count " + what, read.count(what), passed.count(what));
        }
        for (int what = 0; what < 6; what++) {
            Checks.due("door " + what, read.door(what), passed.door(what));
        }
        for (int what = 0; what < 8; what++) {
            Checks.due("thing " + what, read.thing(what), passed.thing(what));
        }
        Checks.dueFloat("the place", read.place(), passed.place());
        Checks.due("the text stays", read.count(10), 24);
        Checks.due("readBeams() again", read.readBeams(), 126);
        Checks.due("the tick", read.count(0), 252);
    }

    private static void readBeamsIsOneAct() {
        LiftBeams lift = Checks.withText("0,1,2,3,4,5,6,7");
        Checks.due("readBeams()", lift.readBeams(), 8);
        Checks.due("ticks with broken beams", lift.count(8), 7);
        Checks.due("the states of one act", lift.count(9), 1);
        Checks.due("undo()", lift.undo(), 0);
        Checks.due("the tick", lift.count(0), 0);
        Checks.due("the text is no part of a state", lift.count(10), 15);
        lift.clearText();
        Checks.typeText(lift, "0,0,0,0,0,0,0,0,0,0,0,0,0,0,0,0,0,0,0,0,0,0,0,0,0,0,0,0,0,0");
        Checks.due("30 parts", lift.readBeams(), 30);
        lift.clearText();
        lift.type('0');
        Checks.due("fewer parts than the text before", lift.readBeams(), 1);
        Checks.due("the tick", lift.count(0), 31);
    }

    private static void faults() {
        Object[][] rows = {{"", 0}, {",", 0}, {"8", 0}, {"9", 0}, {"*", 0}, {" 1", 0}, {"x", 0},
            {"0,", 2}, {"0,,", 2}, {"0,8", 2}, {"0,*", 2}, {"00", 1}, {"12", 1}, {"0 ", 1}, {"0x", 1},
            {"0*", 2}, {"0*0", 2}, {"0*,", 2}, {"0**", 2}, {"0*x", 2}, {"0*1*", 3}, {"0*1x", 3},
            {"0*123", 4}, {"0*100", 4}, {"0*12*", 4}, {"0*12,", 5}, {"0*1,", 4}, {"7*99,7*0", 7},
            {"0,0,0,0,0,0,0,0,0,0,0,0,0,0,0,0,0,0,0,0,0,0,0,0,0,0,0,0,0,0,", 60}};
        for (Object[] row : rows) {
            LiftBeams lift = Checks.withText((String) row[0]);
            Checks.due("readBeams() of " + row[0], lift.readBeams(), -100 - (Integer) row[1]);
            Checks.due("the tick", lift.count(0), 0);
            Checks.due("the states of no act", lift.count(9), 0);
        }
        Object[][] sound = {{"0", 1}, {"7", 1}, {"0*1", 1}, {"0*9", 9}, {"0*10", 10}, {"0*99", 99}, {"1,2*20", 21}};
        for (Object[] row : sound) {
            Checks.due("readBeams() of " + row[0], Checks.withText((String) row[0]).readBeams(), (Integer) row[1]);
        }
    }

    private static void faultsOfStrangeCharacters() {
        char[] strange = {0, '/', ':', (char) 0x130, (char) 0x661, (char) 0x12A, (char) 0xFF10, (char) 0xFFFF};
        for (char character : strange) {
            Checks.due("ahead of a part", Checks.withText("" + character).readBeams(), -100);
            Checks.due("behind beams", Checks.withText("0" + character).readBeams(), -101);
            Checks.due("behind a star", Checks.withText("0*" + character).readBeams(), -102);
            Checks.due("behind a digit", Checks.withText("0*1" + character).readBeams(), -103);
            Checks.due("behind a number", Checks.withText("0*11" + character).readBeams(), -104);
        }
    }

    private static void theLastTick() {
        LiftBeams lift = Checks.withText("7*99,0*99,7*99,0*99,7*99,0*99,7*99,0*99,7*99,0*99,7*99,0*99");
        for (int time = 1; time <= 84; time++) {
            Checks.due("readBeams()", lift.readBeams(), 1188);
        }
        Checks.due("the tick", lift.count(0), 99792);
        Checks.due("readBeams() for too long", lift.readBeams(), LiftBeams.FULL);
        lift.pass(0, 99);
        Checks.due("pass() up to 99990", lift.pass(0, 99), 0);
        Checks.due("BAD_VALUE ahead of FULL", lift.pass(8, 99), LiftBeams.BAD_VALUE);
        Checks.due("pass() up to 100000", lift.pass(0, 10), LiftBeams.FULL);
        Checks.due("the tick", lift.count(0), 99990);
        Checks.due("pass() up to 99999", lift.pass(1, 9), 0);
        Checks.due("the tick", lift.count(0), 99999);
        Checks.due("one tick more", lift.pass(0, 1), LiftBeams.FULL);
        Checks.due("readBeams()", lift.readBeams(), LiftBeams.FULL);
        lift.undo();
        lift.clearText();
        Checks.typeText(lift, "3*4,0*6");
        Checks.due("readBeams() up to 100000", lift.readBeams(), LiftBeams.FULL);
        Checks.due("the tick", lift.count(0), 99990);
        lift.clearText();
        Checks.typeText(lift, "3*4,0*5");
        Checks.due("readBeams() up to 99999", lift.readBeams(), 9);
        Checks.due("the tick", lift.count(0), 99999);
        lift.clearText();
        Checks.due("the fault ahead of FULL", lift.readBeams(), -100);
        lift.type('0');
        Checks.due("one tick more in a text", lift.readBeams(), LiftBeams.FULL);
        lift.call();
        Checks.dueFloat("placeIn(), whatever the tick is", lift.placeIn(0, 9), 90.0f);
        Checks.due("shutsIn(), whatever the tick is", lift.shutsIn(), 28);
        lift.undo();
        lift.undo();
        Checks.due("the tick after undo()", lift.count(0), 99990);
        Checks.due("a tick again", lift.readBeams(), 1);
    }
}
