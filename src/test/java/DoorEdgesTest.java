/** The sentences of "The door" and "A tick", and of call and serve, each at its boundaries. */
public final class DoorEdgesTest {
    private static final int SHUT = 0;
    private static final int OPENING = 1;
    private static final int OPEN = 2;
    private static final int CLOSING = 3;

    public static void main(String[] args) {
        shutAtFirst();
        shutDoesNothing();
        openingGrowsToHundredOrMore();
        openingBySpeedsOfTheRange();
        openingIsNotHinderedByBeams();
        openWaitsForTheDwell();
        openHasWaitedForMoreThanTheDwell();
        openWaitsAnewWhenBroken();
        brokenBeamsHoldAnOpenDoorBehindTheDwell();
        waitsAlsoWhileThereIsACallForService();
        servedInATickOfBrokenBeams();
        closingBeginsAtHundred();
        standsAsLongAsThePatience();
        patienceSetWhileItStands();
        standsForNoneAfterAClearTick();
        opensAgainWhereItIs();
        theThingOfTheVeryTickIsTheCause();
        onlyTheThingThatIsThereIsTheCause();
        closingFallsToZeroOrLess();
        closingBySpeedsOfTheRange();
        countIsZeroWhenShut();
        closesSlowlyIfMoreThanTheLimit();
        limitSetWhileItCloses();
        serviceIfMoreThanLimitAndRest();
        serviceOnlyAsItOpensAgain();
        serviceStaysTillItIsServed();
        serviceAgainWhenItWasServed();
        leafTakesOneBackIfAboveZero();
        leafTakesNothingFromADoorThatWasShut();
        leafTakesBackOneHoweverOften();
        leafThatCausedNothing();
        thingAheadOfDoor();
        callInEachState();
        callOfAClosingDoorThatStands();
        callWithACallForService();
        callOfADoorThatWaited();
        serveInEachState();
        tickGrowsByOne();
        Checks.finish("DoorEdgesTest");
    }

    // "The door has a place, .. at first 0.0f. It is in one of these states: 0 shut (at first) .."
    private static void shutAtFirst() {
        LiftBeams lift = new LiftBeams();
        Checks.due("the state", lift.door(0), SHUT);
        Checks.dueFloat("the place", lift.place(), 0.0f);
        Checks.due("how often it was shut", lift.count(5), 0);
    }

    // "shut: nothing"
    private static void shutDoesNothing() {
        for (int beams = 0; beams <= 7; beams++) {
            LiftBeams lift = new LiftBeams();
            Checks.due("a shut door", lift.pass(beams, 99), SHUT);
            Checks.dueFloat("the place", lift.place(), 0.0f);
            Checks.due("opened again", lift.count(6), 0);
            Checks.due("came to be shut", lift.count(5), 0);
            Checks.due("waited", lift.door(3), 0);
            Checks.due("stood", lift.door(4), 0);
        }
    }

    // "if it is 100.0f or more, it becomes 100.0f, and the door is open, and has waited for 0 ticks"
    private static void openingGrowsToHundredOrMore() {
        float[] speeds = {Math.nextDown(25.0f), 25.0f, Math.nextUp(25.0f)};
        for (float speed : speeds) {
            LiftBeams lift = new LiftBeams();
            lift.setSpeed(0, Checks.bits(speed));
            lift.call();
            Checks.due("three ticks of " + speed, lift.pass(0, 3), OPENING);
            Checks.dueFloat("three ticks of " + speed, lift.place(), speed + speed + speed);
            float place = speed + speed + speed + speed;
            boolean reaches = place >= 100.0f;
            Checks.due("the speed " + speed + " reaches 100.0f", reaches ? 1 : 0, speed >= 25.0f ? 1 : 0);
            Checks.due("four ticks of " + speed, lift.pass(0, 1), reaches ? OPEN : OPENING);
            Checks.dueFloat("four ticks of " + speed, lift.place(), reaches ? 100.0f : place);
            Checks.due("waited", lift.door(3), 0);
            Checks.due("five ticks of " + speed, lift.pass(0, 1), OPEN);
            Checks.dueFloat("five ticks of " + speed, lift.place(), 100.0f);
            Checks.due("waited, a tick behind", lift.door(3), reaches ? 1 : 0);
        }
    }

    private static void openingBySpeedsOfTheRange() {
        float[] speeds = {0.5f, Math.nextUp(0.5f), Math.nextDown(50.0f), 50.0f};
        int[] ticks = {200, 200, 3, 2};
        for (int row = 0; row < speeds.length; row++) {
            LiftBeams lift = new LiftBeams();
            lift.setSpeed(0, Checks.bits(speeds[row]));
            lift.call();
            passAll(lift, 0, ticks[row] - 1);
            Checks.due("a tick ahead, " + speeds[row], lift.door(0), OPENING);
            Checks.due("open, " + speeds[row], lift.pass(0, 1), OPEN);
            Checks.dueFloat("the place", lift.place(), 100.0f);
        }
    }

    private static void openingIsNotHinderedByBeams() {
        for (int beams = 0; beams <= 7; beams++) {
            LiftBeams lift = new LiftBeams();
            lift.call();
            Checks.due("opening", lift.pass(beams, 9), OPENING);
            Checks.dueFloat("the place", lift.place(), 90.0f);
            Checks.due("open", lift.pass(beams, 1), OPEN);
            Checks.due("waited", lift.door(3), 0);
        }
    }

    // "if this is as many as the dwell, or more, and there is no call for service, it is closing"
    private static void openWaitsForTheDwell() {
        for (int dwell = 1; dwell <= 50; dwell++) {
            LiftBeams lift = openDoor();
            lift.setNumber(0, dwell);
            for (int waited = 1; waited < dwell; waited++) {
                Checks.due("dwell " + dwell + ", still open", lift.pass(0, 1), OPEN);
                Checks.due("dwell " + dwell + ", waited", lift.door(3), waited);
            }
            Checks.due("dwell " + dwell + ", closing", lift.pass(0, 1), CLOSING);
            Checks.due("dwell " + dwell + ", waits no more", lift.door(3), 0);
        }
    }

    // "or more": a dwell that is set when it has waited for 10 ticks
    private static void openHasWaitedForMoreThanTheDwell() {
        for (int dwell = 1; dwell <= 14; dwell++) {
            LiftBeams lift = openDoor();
            lift.setNumber(0, 50);
            lift.pass(0, 10);
            lift.setNumber(0, dwell);
            Checks.due("setting the dwell " + dwell + " closes nothing", lift.door(0), OPEN);
            Checks.due("waited", lift.door(3), 10);
            int more = Math.max(1, dwell - 10);
            if (more > 1) {
                Checks.due("the dwell " + dwell + " is not reached", lift.pass(0, more - 1), OPEN);
            }
            Checks.due("the dwell " + dwell, lift.pass(0, 1), CLOSING);
        }
    }

    // "open: if any beam is broken, it has waited for 0 ticks; otherwise for one tick more"
    private static void openWaitsAnewWhenBroken() {
        for (int beams = 1; beams <= 7; beams++) {
            LiftBeams lift = openDoor();
            lift.pass(0, 4);
            Checks.due("waited", lift.door(3), 4);
            Checks.due("broken", lift.pass(beams, 1), OPEN);
            Checks.due("waited for none", lift.door(3), 0);
            Checks.due("a tick ahead", lift.pass(0, 4), OPEN);
            Checks.due("the dwell", lift.pass(0, 1), CLOSING);
        }
    }

    private static void brokenBeamsHoldAnOpenDoorBehindTheDwell() {
        LiftBeams lift = openDoor();
        lift.setNumber(0, 50);
        lift.pass(0, 20);
        lift.setNumber(0, 1);
        Checks.due("more than the dwell, but broken", lift.pass(4, 1), OPEN);
        Checks.due("waited for none", lift.door(3), 0);
        Checks.due("the dwell", lift.pass(0, 1), CLOSING);
    }

    // "(also while there is a call for service)"
    private static void waitsAlsoWhileThereIsACallForService() {
        LiftBeams lift = withService();
        lift.pass(7, 1);
        Checks.due("open", lift.door(0), OPEN);
        for (int waited = 1; waited <= 60; waited++) {
            Checks.due("a call for service keeps it open", lift.pass(0, 1), OPEN);
            Checks.due("it waits", lift.door(3), waited);
        }
        lift.serve();
        Checks.due("serve() closes nothing", lift.door(0), OPEN);
        Checks.due("nor is the wait lost", lift.door(3), 60);
        Checks.due("more than the dwell", lift.pass(0, 1), CLOSING);
    }

    private static void servedInATickOfBrokenBeams() {
        LiftBeams lift = withService();
        lift.setNumber(0, 2);
        lift.pass(0, 9);
        lift.serve();
        Checks.due("broken", lift.pass(1, 1), OPEN);
        Checks.due("one tick", lift.pass(0, 1), OPEN);
        Checks.due("the dwell", lift.pass(0, 1), CLOSING);
    }

    // "it is closing, and has stood for 0 ticks": the place falls from the tick behind on.
    private static void closingBeginsAtHundred() {
        LiftBeams lift = openDoor();
        lift.pass(0, 5);
        Checks.due("closing", lift.door(0), CLOSING);
        Checks.due("stood", lift.door(4), 0);
        Checks.dueFloat("the place", lift.place(), 100.0f);
        lift.pass(0, 1);
        Checks.dueFloat("the place, a tick behind", lift.place(), 92.0f);
    }

    // "if any beam is broken, it has stood for one tick more; if this is more than the patience, it opens again"
    private static void standsAsLongAsThePatience() {
        for (int patience = 0; patience <= 5; patience++) {
            for (int beams = 1; beams <= 7; beams++) {
                LiftBeams lift = Checks.closing();
                lift.setNumber(1, patience);
                lift.pass(0, 1);
                for (int stood = 1; stood <= patience; stood++) {
                    Checks.due("patience " + patience + ", it stands", lift.pass(beams, 1), CLOSING);
                    Checks.due("patience " + patience + ", stood", lift.door(4), stood);
                    Checks.dueFloat("the place", lift.place(), 92.0f);
                }
                Checks.due("patience " + patience + ", not yet", lift.count(6), 0);
                Checks.due("patience " + patience + ", one more", lift.pass(beams, 1), OPENING);
                Checks.due("patience " + patience + ", the count", lift.door(1), 1);
            }
        }
    }

    private static void patienceSetWhileItStands() {
        for (int patience = 0; patience <= 4; patience++) {
            LiftBeams lift = Checks.closing();
            lift.setNumber(1, 5);
            lift.pass(1, 3);
            lift.setNumber(1, patience);
            Checks.due("setting the patience " + patience + " opens nothing", lift.door(0), CLOSING);
            Checks.due("stood", lift.door(4), 3);
            Checks.due("one more, patience " + patience, lift.pass(1, 1), patience < 4 ? OPENING : CLOSING);
            Checks.due("two more, patience " + patience, lift.pass(1, 1), patience < 4 ? OPEN : OPENING);
        }
    }

    // "If no beam is broken, it has stood for 0 ticks"
    private static void standsForNoneAfterAClearTick() {
        LiftBeams lift = Checks.closing();
        lift.setNumber(1, 2);
        for (int time = 1; time <= 4; time++) {
            Checks.due("as many as the patience", lift.pass(2, 2), CLOSING);
            Checks.due("stood", lift.door(4), 2);
            lift.pass(0, 1);
            Checks.due("stood for none", lift.door(4), 0);
            Checks.dueFloat("the place", lift.place(), 100.0f - 8.0f * time);
        }
        Checks.due("no opening again", lift.count(6), 0);
    }

    // "it is opening, the count grows by 1": the place grows from the tick behind on.
    private static void opensAgainWhereItIs() {
        LiftBeams lift = Checks.closing();
        lift.setNumber(1, 0);
        lift.pass(0, 7);
        Checks.due("it opens again", lift.pass(5, 1), OPENING);
        Checks.dueFloat("the place", lift.place(), 44.0f);
        Checks.due("the count", lift.door(1), 1);
        Checks.due("the count so far", lift.count(6), 1);
        Checks.due("stood, as it is not closing", lift.door(4), 0);
        lift.pass(5, 1);
        Checks.dueFloat("the place, a tick behind", lift.place(), 54.0f);
        Checks.due("the count stays", lift.door(1), 1);
    }

    // "and the thing that is there is the cause"
    private static void theThingOfTheVeryTickIsTheCause() {
        LiftBeams lift = Checks.closing();
        lift.setNumber(1, 0);
        lift.pass(4, 1);
        Checks.due("it began in this tick", lift.thing(4), 15);
        Checks.due("it is the cause", lift.thing(6), 1);
        LiftBeams patient = Checks.closing();
        patient.pass(4, 1);
        Checks.due("not while the door is patient", patient.thing(6), 0);
        patient.pass(4, 1);
        Checks.due("but then", patient.thing(6), 1);
        patient.pass(0, 2);
        Checks.due("it stays the cause", patient.thing(6), 1);
    }

    private static void onlyTheThingThatIsThereIsTheCause() {
        LiftBeams lift = Checks.closing();
        lift.setNumber(1, 0);
        lift.pass(4, 1);
        lift.pass(0, 3);
        lift.pass(4, 1);
        Checks.due("the next thing", lift.thing(4), 19);
        Checks.due("is not the cause", lift.thing(6), 0);
    }

    // "if it is 0.0f or less, it becomes 0.0f, the door is shut"
    private static void closingFallsToZeroOrLess() {
        float[] speeds = {Math.nextDown(25.0f), 25.0f, Math.nextUp(25.0f)};
        for (float speed : speeds) {
            LiftBeams lift = Checks.closing();
            lift.setSpeed(1, Checks.bits(speed));
            Checks.due("three ticks of " + speed, lift.pass(0, 3), CLOSING);
            float place = 100.0f - speed - speed - speed;
            Checks.dueFloat("three ticks of " + speed, lift.place(), place);
            boolean reaches = place - speed <= 0.0f;
            Checks.due("the speed " + speed + " reaches 0.0f", reaches ? 1 : 0, speed >= 25.0f ? 1 : 0);
            Checks.due("four ticks of " + speed, lift.pass(0, 1), reaches ? SHUT : CLOSING);
            Checks.dueFloat("four ticks of " + speed, lift.place(), reaches ? 0.0f : place - speed);
            Checks.due("came to be shut", lift.count(5), reaches ? 1 : 0);
            Checks.due("five ticks of " + speed, lift.pass(0, 1), SHUT);
            Checks.dueFloat("five ticks of " + speed, lift.place(), 0.0f);
            Checks.due("came to be shut once", lift.count(5), 1);
        }
    }

    private static void closingBySpeedsOfTheRange() {
        float[] speeds = {0.5f, Math.nextUp(0.5f), Math.nextDown(50.0f), 50.0f};
        int[] ticks = {200, 200, 3, 2};
        for (int which = 1; which <= 2; which++) {
            for (int row = 0; row < speeds.length; row++) {
                LiftBeams lift = which == 1 ? Checks.closing() : closingSlowly();
                lift.setSpeed(which, Checks.bits(speeds[row]));
                lift.setWeight(0, 0);
                passAll(lift, 0, ticks[row] - 1);
                Checks.due("a tick ahead, " + speeds[row], lift.door(0), CLOSING);
                Checks.due("shut, " + speeds[row], lift.pass(0, 1), SHUT);
                Checks.dueFloat("the place", lift.place(), 0.0f);
            }
        }
    }

    // "the door is shut, and the count is 0"
    private static void countIsZeroWhenShut() {
        LiftBeams lift = closingSlowly();
        lift.setSpeed(2, Checks.bits(50.0f));
        lift.pass(0, 1);
        Checks.due("the count ahead", lift.door(1), 1);
        Checks.dueFloat("it closes slowly", lift.speed(3), 50.0f);
        Checks.due("it is shut", lift.pass(0, 1), SHUT);
        Checks.due("the count", lift.door(1), 0);
        Checks.dueFloat("it closes slowly no more", lift.speed(3), 8.0f);
        Checks.due("the count so far", lift.count(6), 1);
    }

    // "It closes slowly if this is more than the limit."
    private static void closesSlowlyIfMoreThanTheLimit() {
        for (int limit = 0; limit <= 5; limit++) {
            LiftBeams lift = Checks.quickClosing(limit, 5);
            for (int count = 0; count <= limit + 1; count++) {
                Checks.due("limit " + limit + ", the count", lift.door(1), count);
                boolean slowly = count > limit;
                Checks.dueFloat("limit " + limit + ", count " + count, lift.speed(3), slowly ? 2.0f : 8.0f);
                Checks.dueFloat("the place then", lift.placeIn(0, 1), slowly ? 98.0f : 92.0f);
                openAndCloseAgain(lift);
            }
        }
    }

    private static void limitSetWhileItCloses() {
        LiftBeams lift = Checks.quickClosing(1, 5);
        openAndCloseAgain(lift);
        openAndCloseAgain(lift);
        Checks.dueFloat("more than the limit", lift.speed(3), 2.0f);
        lift.setNumber(2, 2);
        Checks.dueFloat("as many as the limit", lift.speed(3), 8.0f);
        lift.setNumber(2, 3);
        Checks.dueFloat("less than the limit", lift.speed(3), 8.0f);
        lift.setNumber(2, 0);
        Checks.dueFloat("more than the limit again", lift.speed(3), 2.0f);
        lift.pass(0, 1);
        Checks.dueFloat("the place", lift.place(), 98.0f);
    }

    // "if .. the count (with this one) is more than the limit and the rest together, there is a call for service"
    private static void serviceIfMoreThanLimitAndRest() {
        for (int limit = 0; limit <= 5; limit++) {
            for (int rest = 0; rest <= 5; rest++) {
                LiftBeams lift = Checks.quickClosing(limit, rest);
                for (int count = 1; count <= limit + rest; count++) {
                    openAndCloseAgain(lift);
                    Checks.due("the count", lift.door(1), count);
                    Checks.due("no call of " + limit + " and " + rest, lift.door(2), 0);
                }
                Checks.due("no call so far", lift.count(7), 0);
                lift.pass(7, 1);
                Checks.due("the count", lift.door(1), limit + rest + 1);
                Checks.due("a call of " + limit + " and " + rest, lift.door(2), 1);
                Checks.due("one call so far", lift.count(7), 1);
            }
        }
    }

    // "as it opens again": a limit or a rest that is set calls for nothing by itself, nor takes it back.
    private static void serviceOnlyAsItOpensAgain() {
        LiftBeams lift = Checks.quickClosing(2, 2);
        openAndCloseAgain(lift);
        openAndCloseAgain(lift);
        lift.setNumber(2, 0);
        lift.setNumber(3, 0);
        Checks.due("no call by setting", lift.door(2), 0);
        lift.pass(0, 1);
        Checks.due("nor in a clear tick", lift.door(2), 0);
        lift.pass(7, 1);
        Checks.due("as it opens again", lift.door(2), 1);
        lift.setNumber(2, 5);
        lift.setNumber(3, 5);
        Checks.due("not taken back by setting", lift.door(2), 1);
        Checks.due("one call so far", lift.count(7), 1);
    }

    // "which stays till it is served"
    private static void serviceStaysTillItIsServed() {
        LiftBeams lift = withService();
        lift.call();
        Checks.due("behind call()", lift.door(2), 1);
        passAll(lift, 0, 150);
        Checks.due("behind a leaf that takes back", lift.door(2), 1);
        Checks.due("the count", lift.door(1), 0);
        passAll(lift, 7, 150);
        Checks.due("behind broken ticks", lift.door(2), 1);
        lift.call();
        Checks.due("behind call() of an open door", lift.door(2), 1);
        Checks.due("one call so far", lift.count(7), 1);
        Checks.due("served", lift.serve(), 0);
        Checks.due("no call", lift.door(2), 0);
        Checks.due("one call so far", lift.count(7), 1);
    }

    // count(7): "how often there was a call for service so far"
    private static void serviceAgainWhenItWasServed() {
        LiftBeams lift = Checks.quickClosing(0, 0);
        for (int time = 1; time <= 5; time++) {
            lift.pass(7, 1);
            Checks.due("a call for service", lift.door(2), 1);
            Checks.due("calls so far", lift.count(7), time);
            lift.pass(7, 5);
            lift.pass(0, 1);
            Checks.due("it can't close, and so not call again", lift.door(0), OPEN);
            Checks.due("served", lift.serve(), 1);
            Checks.due("serve() takes nothing off it", lift.count(7), time);
            Checks.due("it closes", lift.pass(0, 1), CLOSING);
        }
    }

    // "the count of how often it opened again becomes less by 1 (..), if it is above 0"
    private static void leafTakesOneBackIfAboveZero() {
        for (int count = 1; count <= 4; count++) {
            LiftBeams lift = Checks.quickClosing(5, 5);
            for (int before = 1; before < count; before++) {
                openAndCloseAgain(lift);
            }
            lift.setNumber(0, 50);
            lift.setWeight(0, 0);
            lift.pass(7, 3);
            lift.pass(0, 3);
            Checks.due("no leaf", lift.judged(0, 0), 3);
            Checks.due("takes nothing back", lift.door(1), count);
            lift.setNumber(0, 1);
            lift.pass(0, 1);
            lift.setWeight(0, Checks.bits(4.0f));
            lift.pass(7, 1);
            lift.setNumber(0, 50);
            Checks.due("one more", lift.door(1), count + 1);
            lift.pass(0, 3);
            Checks.due("a leaf", lift.judged(0, 0), 0);
            Checks.due("takes one back", lift.door(1), count);
            Checks.due("the count so far never becomes less", lift.count(6), count + 1);
        }
    }

    private static void leafTakesNothingFromADoorThatWasShut() {
        LiftBeams lift = Checks.quickClosing(5, 5);
        lift.setSpeed(1, Checks.bits(50.0f));
        lift.setNumber(4, 10);
        lift.pass(7, 1);
        Checks.due("it is the cause", lift.thing(6), 1);
        Checks.due("it is shut ahead of the end", lift.pass(0, 4), SHUT);
        Checks.due("the thing lasts", lift.thing(5), 4);
        Checks.due("the count", lift.door(1), 0);
        lift.pass(0, 6);
        Checks.due("a leaf", lift.judged(0, 0), 0);
        Checks.due("not below 0", lift.door(1), 0);
        Checks.due("still shut", lift.door(0), SHUT);
    }

    // "(not more, however often that was)"
    private static void leafTakesBackOneHoweverOften() {
        for (int often = 1; often <= 5; often++) {
            LiftBeams lift = Checks.quickClosing(5, 5);
            lift.setWeight(0, Checks.bits(4.0f));
            lift.setWeight(1, 0);
            lift.setWeight(2, 0);
            lift.setWeight(3, 0);
            for (int time = 1; time <= often; time++) {
                openAndCloseAgain(lift);
            }
            Checks.due("the count", lift.door(1), often);
            lift.pass(0, 2);
            Checks.due("a leaf", lift.judged(0, 0), 0);
            Checks.due("one less", lift.door(1), often - 1);
        }
    }

    // "and the door opened again because of it"
    private static void leafThatCausedNothing() {
        LiftBeams lift = Checks.quickClosing(5, 5);
        lift.setNumber(4, 1);
        lift.pass(7, 5);
        lift.pass(0, 1);
        Checks.due("a person", lift.judged(0, 0), 3);
        Checks.due("it is closing", lift.door(0), CLOSING);
        lift.setNumber(1, 5);
        lift.pass(7, 1);
        Checks.due("it stands", lift.door(4), 1);
        lift.pass(0, 1);
        Checks.due("a leaf", lift.judged(0, 0), 0);
        Checks.due("takes nothing back", lift.door(1), 1);
    }

    // "In a tick, first the thing goes on .. Then the door does one of these"
    private static void thingAheadOfDoor() {
        LiftBeams lift = closingSlowly();
        lift.setNumber(4, 5);
        lift.pass(0, 2);
        Checks.dueFloat("two ticks of closing slowly", lift.place(), 96.0f);
        lift.pass(0, 1);
        Checks.due("a leaf was judged", lift.judged(0, 4), lift.count(0) - 1);
        Checks.dueFloat("it closes fast in this tick", lift.place(), 88.0f);
    }

    // call(): "one that is shut or closing is opening then; one that is open has waited for 0 ticks then"
    private static void callInEachState() {
        LiftBeams lift = new LiftBeams();
        Checks.due("a shut door", lift.call(), SHUT);
        Checks.due("is opening", lift.door(0), OPENING);
        Checks.dueFloat("the place", lift.place(), 0.0f);
        Checks.due("an opening door", lift.call(), LiftBeams.NOT_POSSIBLE);
        lift.pass(0, 9);
        Checks.due("a tick ahead of open", lift.call(), LiftBeams.NOT_POSSIBLE);
        lift.pass(0, 1);
        Checks.due("an open door", lift.call(), OPEN);
        Checks.due("is open", lift.door(0), OPEN);
        lift.pass(0, 5);
        Checks.due("a closing door that has just begun", lift.call(), CLOSING);
        Checks.due("is opening", lift.door(0), OPENING);
        Checks.due("opens at once", lift.pass(0, 1), OPEN);
        lift.pass(0, 17);
        Checks.dueFloat("just ahead of shut", lift.place(), 4.0f);
        Checks.due("a closing door ahead of shut", lift.call(), CLOSING);
        Checks.dueFloat("the place", lift.place(), 4.0f);
        Checks.due("the count", lift.door(1), 0);
        Checks.due("the count so far", lift.count(6), 0);
        Checks.due("came to be shut", lift.count(5), 0);
    }

    private static void callOfAClosingDoorThatStands() {
        LiftBeams lift = Checks.closing();
        lift.pass(0, 2);
        lift.pass(3, 1);
        Checks.due("stood", lift.door(4), 1);
        Checks.due("call()", lift.call(), CLOSING);
        Checks.due("the thing is not the cause", lift.thing(6), 0);
        Checks.due("stood, as it is opening", lift.door(4), 0);
        lift.pass(0, 7);
        Checks.due("it closes again", lift.door(0), CLOSING);
        Checks.due("stood for none", lift.door(4), 0);
        Checks.due("patient anew", lift.pass(3, 1), CLOSING);
        Checks.due("call() of a slow one", closingSlowly().call(), CLOSING);
    }

    private static void callWithACallForService() {
        LiftBeams lift = withService();
        Checks.due("it is opening", lift.call(), LiftBeams.NOT_POSSIBLE);
        lift.pass(0, 3);
        Checks.due("waited", lift.door(3), 2);
        Checks.due("it is open", lift.call(), OPEN);
        Checks.due("waited for none", lift.door(3), 0);
        Checks.due("the call for service stays", lift.door(2), 1);
    }

    private static void callOfADoorThatWaited() {
        for (int waited = 0; waited <= 4; waited++) {
            LiftBeams lift = openDoor();
            if (waited > 0) {
                lift.pass(0, waited);
            }
            int states = lift.count(9);
            Checks.due("waited", lift.door(3), waited);
            Checks.due("call()", lift.call(), OPEN);
            Checks.due("waited for none", lift.door(3), 0);
            Checks.due("an act, whatever it waited", lift.count(9), states + 1);
            lift.undo();
            Checks.due("waited, after undo()", lift.door(3), waited);
            lift.call();
            Checks.due("a tick ahead of the dwell", lift.pass(0, 4), OPEN);
            Checks.due("the dwell", lift.pass(0, 1), CLOSING);
        }
    }

    // serve(): "Returns the count that there was; NOT_POSSIBLE if there is no call for service."
    private static void serveInEachState() {
        LiftBeams lift = new LiftBeams();
        Checks.due("a shut door", lift.serve(), LiftBeams.NOT_POSSIBLE);
        lift.call();
        Checks.due("an opening door", lift.serve(), LiftBeams.NOT_POSSIBLE);
        lift.pass(0, 10);
        Checks.due("an open door", lift.serve(), LiftBeams.NOT_POSSIBLE);
        lift.pass(0, 5);
        Checks.due("a closing door", lift.serve(), LiftBeams.NOT_POSSIBLE);
        Checks.due("one that closes slowly", closingSlowly().serve(), LiftBeams.NOT_POSSIBLE);
        for (int limit = 0; limit <= 5; limit++) {
            LiftBeams called = Checks.quickClosing(limit, 0);
            for (int count = 0; count < limit; count++) {
                openAndCloseAgain(called);
            }
            Checks.due("as many as the limit", called.serve(), LiftBeams.NOT_POSSIBLE);
            called.pass(7, 1);
            Checks.due("the count that there was", called.serve(), limit + 1);
            Checks.due("the count", called.door(1), 0);
            Checks.due("the state", called.door(0), OPENING);
            Checks.due("serve() again", called.serve(), LiftBeams.NOT_POSSIBLE);
        }
    }

    // "Then the tick becomes greater by 1."
    private static void tickGrowsByOne() {
        LiftBeams lift = new LiftBeams();
        for (int tick = 1; tick <= 60; tick++) {
            lift.pass(tick % 8, 1);
            Checks.due("the tick", lift.count(0), tick);
        }
        lift.call();
        lift.serve();
        lift.keep();
        Checks.due("no other act grows it", lift.count(0), 60);
    }

    private static LiftBeams openDoor() {
        LiftBeams lift = new LiftBeams();
        lift.call();
        Checks.due("the door opens", lift.pass(0, 10), OPEN);
        Checks.due("it has waited for none", lift.door(3), 0);
        return lift;
    }

    /** A door that closes slowly from 100.0f, with a count of 1 and a leaf that has been clear for 2 ticks. */
    private static LiftBeams closingSlowly() {
        LiftBeams lift = Checks.quickClosing(0, 5);
        lift.setNumber(4, 10);
        lift.pass(7, 1);
        lift.pass(0, 2);
        Checks.due("it closes again", lift.door(0), CLOSING);
        Checks.dueFloat("slowly", lift.speed(3), 2.0f);
        return lift;
    }

    /** A door that is opening again, with a count of 1 and a call for service. */
    private static LiftBeams withService() {
        LiftBeams lift = Checks.quickClosing(0, 0);
        lift.pass(7, 1);
        Checks.due("a call for service", lift.door(2), 1);
        return lift;
    }

    /** Of a door by quickClosing(): it opens again, and has just begun to close then; the thing lasts. */
    private static void openAndCloseAgain(LiftBeams lift) {
        lift.pass(7, 1);
        lift.pass(7, 1);
        lift.pass(0, 1);
    }

    private static void passAll(LiftBeams lift, int beams, int ticks) {
        for (int left = ticks; left > 0; left -= 99) {
            lift.pass(beams, Math.min(left, 99));
        }
    }
}
