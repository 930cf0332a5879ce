/** Promises 14, 15, 17 and 19 to 24: what is told, and the things behind it. */
public final class ToldTest {
    public static void main(String[] args) {
        placeIsRoundedInEachTick();
        placeIsRoundedInEachTickOfClosing();
        scores();
        scoresByTheirFormulas();
        scoresTimesWeights();
        kindsAreJudged();
        ofEqualProductsTheLowest();
        door();
        thing();
        thingEndsBehindTheGap();
        thingEndsBehindALesserGap();
        judged();
        judgedKnowsTen();
        shutsIn();
        shutsInUpToGreatest();
        shutsInForecastsTheThing();
        placeIn();
        forecastsChangeNothing();
        count();
        Checks.finish("ToldTest");
    }

    private static void placeIsRoundedInEachTick() {
        LiftBeams lift = new LiftBeams();
        lift.setSpeed(0, Checks.bits(0.7f));
        lift.call();
        float place = 0.0f;
        for (int tick = 0; tick < 140; tick++) {
            lift.pass(0, 1);
            place = place + 0.7f;
            Checks.dueFloat("place()", lift.place(), place);
            Checks.due("the place as a whole number", lift.door(5), (int) place);
        }
        lift.pass(0, 3);
        Checks.dueFloat("place() of an open door", lift.place(), 100.0f);
    }

    private static void placeIsRoundedInEachTickOfClosing() {
        LiftBeams lift = Checks.closing();
        lift.setSpeed(1, Checks.bits(1.3f));
        float place = 100.0f;
        for (int tick = 0; tick < 76; tick++) {
            lift.pass(0, 1);
            place = place - 1.3f;
            Checks.dueFloat("place()", lift.place(), place);
            Checks.due("the place as a whole number", lift.door(5), (int) place);
        }
        lift.pass(0, 1);
        Checks.dueFloat("place() of a shut door", lift.place(), 0.0f);
    }

    private static void scores() {
        LiftBeams lift = new LiftBeams();
        lift.pass(7, 1);
        Checks.dueFloat("a leaf", lift.score(0), 1.0f);
        Checks.dueFloat("a person", lift.score(3), 3.0f * (1.0f / 3.0f));
        lift.pass(3, 1);
        lift.pass(1, 2);
        Checks.dueFloat("a leaf", lift.score(0), 0.25f);
        Checks.dueFloat("a hand", lift.score(1), (1.0f - 4.0f / 7.0f) * 0.75f);
        Checks.dueFloat("a dog", lift.score(2), 4.0f / 7.0f * (1.0f - 1.0f / 7.0f));
        Checks.dueFloat("a person", lift.score(3), 3.0f * (1.0f / 7.0f));
        Checks.dueNaN("a kind -1", lift.score(-1));
        Checks.dueNaN("a kind 4", lift.score(4));
        lift.pass(0, 2);
        Checks.dueFloat("a leaf, in clear ticks", lift.score(0), 0.25f);
        lift.pass(0, 1);
        Checks.dueNaN("no thing", lift.score(0));
        Checks.dueNaN("no thing and no kind", lift.score(4));
    }

    private static void scoresByTheirFormulas() {
        for (int low = 0; low <= 5; low++) {
            for (int middle = 0; middle <= 5; middle++) {
                for (int high = 0; high <= 5; high++) {
                    scoresByTheirFormulas(low, middle, high);
                }
            }
        }
    }

    private static void scoresByTheirFormulas(int low, int middle, int high) {
        LiftBeams lift = new LiftBeams();
        int length = low + middle + high;
        int[] ticks = {low, middle, high};
        for (int beam = 0; beam < 3; beam++) {
            if (ticks[beam] > 0) {
                lift.pass(1 << beam, ticks[beam]);
            }
        }
        if (length == 0) {
            return;
        }
        float sum = length;
        float l = low / sum;
        float m = middle / sum;
        float h = high / sum;
        float person = 3.0f * Math.min(l, Math.min(m, h));
        Checks.dueFloat("a leaf", lift.score(0), 1.0f / sum);
        Checks.dueFloat("a hand", lift.score(1), (1.0f - l) * 0.75f);
        Checks.dueFloat("a dog", lift.score(2), l * (1.0f - h));
        Checks.dueFloat("a person", lift.score(3), person);
    }

    private static void scoresTimesWeights() {
        LiftBeams lift = new LiftBeams();
        lift.pass(3, 3);
        float[] weights = {0.3f, 0.7f, 1.9f, 3.7f};
        float[] scores = {1.0f / 3.0f, (1.0f - 0.5f) * 0.75f, 0.5f, 0.0f};
        for (int kind = 0; kind < 4; kind++) {
            lift.setWeight(kind, Checks.bits(weights[kind]));
            Checks.dueFloat("score " + kind, lift.score(kind), scores[kind] * weights[kind]);
        }
        Checks.due("the kind now", lift.thing(7), 2);
        lift.setWeight(1, Checks.bits(4.0f));
        Checks.due("the kind by another weight", lift.thing(7), 1);
    }

    private static void kindsAreJudged() {
        int[][] rows = {{7, 1, 0}, {1, 1, 0}, {4, 2, 1}, {1, 5, 2}, {7, 5, 3}, {6, 3, 1}, {3, 9, 2}};
        for (int[] row : rows) {
            LiftBeams lift = new LiftBeams();
            lift.pass(row[0], row[1]);
            Checks.due("the kind now", lift.thing(7), row[2]);
            lift.pass(0, 3);
            Checks.due("the kind", lift.judged(0, 0), row[2]);
            for (int kind = 0; kind < 4; kind++) {
                Checks.due("count of kind " + kind, lift.count(1 + kind), kind == row[2] ? 1 : 0);
            }
        }
    }

    private static void ofEqualProductsTheLowest() {
        LiftBeams lift = new LiftBeams();
        lift.pass(7, 9);
        for (int kind = 0; kind < 4; kind++) {
            lift.setWeight(kind, 0);
        }
        Checks.due("all are 0.0f", lift.thing(7), 0);
        lift = new LiftBeams();
        lift.pass(1, 1);
        Checks.dueFloat("a leaf", lift.score(0), 1.0f);
        Checks.dueFloat("a dog", lift.score(2), 1.0f);
        Checks.due("a leaf and a dog", lift.thing(7), 0);
        lift.setWeight(0, 0);
        lift.setWeight(2, Checks.bits(0.5f));
        lift.pass(6, 1);
        lift.setWeight(1, Checks.bits(1.0f / 3.0f));
        Checks.due("the greatest", lift.thing(7), 3);
    }

    private static void door() {
        LiftBeams lift = new LiftBeams();
        Checks.due("door -1", lift.door(-1), LiftBeams.BAD_VALUE);
        Checks.due("door 6", lift.door(6), LiftBeams.BAD_VALUE);
        Checks.due("door of extremes", lift.door(Integer.MIN_VALUE), LiftBeams.BAD_VALUE);
        lift.setSpeed(0, Checks.bits(1.9f));
        lift.call();
        lift.pass(0, 1);
        Checks.due("the fraction is cut off", lift.door(5), 1);
        lift = Checks.closing();
        Checks.due("the place", lift.door(5), 100);
        lift.pass(2, 1);
        int[] due = {3, 0, 0, 0, 1, 100};
        for (int what = 0; what < 6; what++) {
            Checks.due("door " + what, lift.door(what), due[what]);
        }
        lift.pass(2, 1);
        Checks.due("how often it opened again", lift.door(1), 1);
        lift.pass(0, 3);
        Checks.due("waited", lift.door(3), 2);
        Checks.due("stood", lift.door(4), 0);
    }

    private static void thing() {
        LiftBeams lift = new LiftBeams();
        lift.pass(0, 7);
        lift.pass(3, 2);
        lift.pass(0, 1);
        lift.pass(6, 3);
        lift.pass(0, 2);
        int[] due = {5, 2, 5, 3, 7, 2, 0, 1};
        for (int what = 0; what < 8; what++) {
            Checks.due("thing " + what, lift.thing(what), due[what]);
        }
        Checks.due("thing -1", lift.thing(-1), LiftBeams.BAD_VALUE);
        Checks.due("thing 8", lift.thing(8), LiftBeams.BAD_VALUE);
        lift.pass(0, 1);
        Checks.due("no thing", lift.thing(0), LiftBeams.NONE);
        Checks.due("BAD_VALUE ahead of NONE", lift.thing(8), LiftBeams.BAD_VALUE);
        Checks.due("BAD_VALUE ahead of NONE", lift.thing(-1), LiftBeams.BAD_VALUE);
        lift.pass(4, 1);
        int[] next = {1, 0, 0, 1, 16, 0, 0, 0};
        for (int what = 0; what < 8; what++) {
            Checks.due("the next thing " + what, lift.thing(what), next[what]);
        }
    }

    private static void thingEndsBehindTheGap() {
        for (int gap = 1; gap <= 10; gap++) {
            LiftBeams lift = new LiftBeams();
            lift.setNumber(4, gap);
            lift.pass(5, 2);
            if (gap > 1) {
                lift.pass(0, gap - 1);
                Checks.due("it was clear", lift.thing(5), gap - 1);
                lift.pass(5, 1);
                Checks.due("one behind the other", lift.thing(5), 0);
                lift.pass(0, gap - 1);
                Checks.due("it lasts", lift.thing(0), 3);
            }
            lift.pass(0, 1);
            Checks.due("it ended", lift.thing(0), LiftBeams.NONE);
            Checks.due("in the tick ahead", lift.judged(0, 4), lift.count(0) - 1);
        }
    }

    private static void thingEndsBehindALesserGap() {
        LiftBeams lift = new LiftBeams();
        lift.setNumber(4, 10);
        lift.pass(2, 1);
        lift.pass(0, 6);
        lift.setNumber(4, 2);
        Checks.due("it lasts till a tick", lift.thing(5), 6);
        lift.pass(0, 1);
        Checks.due("more than the gap", lift.thing(5), LiftBeams.NONE);
        Checks.due("ended", lift.judged(0, 4), 7);
    }

    private static void judged() {
        LiftBeams lift = new LiftBeams();
        lift.pass(0, 4);
        lift.pass(5, 3);
        lift.pass(0, 3);
        lift.pass(2, 1);
        lift.pass(0, 3);
        int[] latest = {0, 10, 1, 2, 13};
        int[] before = {1, 4, 3, 5, 9};
        for (int what = 0; what < 5; what++) {
            Checks.due("judged 0, " + what, lift.judged(0, what), latest[what]);
            Checks.due("judged 1, " + what, lift.judged(1, what), before[what]);
            Checks.due("judged 2, " + what, lift.judged(2, what), LiftBeams.NONE);
        }
        Checks.due("back -1", lift.judged(-1, 0), LiftBeams.BAD_VALUE);
        Checks.due("what -1", lift.judged(0, -1), LiftBeams.BAD_VALUE);
        Checks.due("what 5", lift.judged(0, 5), LiftBeams.BAD_VALUE);
        Checks.due("BAD_VALUE ahead of NONE", lift.judged(9, 5), LiftBeams.BAD_VALUE);
        Checks.due("far back", lift.judged(Integer.MAX_VALUE, 4), LiftBeams.NONE);
        for (int beams = 1; beams <= 7; beams++) {
            lift.pass(beams, 1);
            lift.pass(0, 3);
            Checks.due("the beams", lift.judged(0, 3), beams);
        }
    }

    private static void judgedKnowsTen() {
        LiftBeams lift = new LiftBeams();
        for (int length = 1; length <= 13; length++) {
            lift.pass(1, length);
            lift.pass(0, 3);
            for (int back = 0; back < 12; back++) {
                int due = back < Math.min(length, 10) ? length - back : LiftBeams.NONE;
                Checks.due("judged " + back, lift.judged(back, 2), due);
            }
        }
        Checks.due("the leaves so far", lift.count(1), 1);
        Checks.due("the dogs so far", lift.count(3), 12);
    }

    private static void shutsIn() {
        LiftBeams lift = new LiftBeams();
        Checks.due("a shut door", lift.shutsIn(), 0);
        lift.call();
        Checks.due("10 + 5 + 13 ticks", lift.shutsIn(), 28);
        for (int left = 27; left >= 0; left--) {
            lift.pass(0, 1);
            Checks.due("a tick later", lift.shutsIn(), left);
        }
        Checks.due("it is shut", lift.door(0), 0);
        lift = Checks.quickClosing(0, 0);
        lift.pass(7, 1);
        Checks.due("never with a call for service", lift.shutsIn(), LiftBeams.NONE);
        lift.serve();
        Checks.due("served", lift.shutsIn(), 15);
        lift.pass(7, 99);
        Checks.due("broken beams don't count", lift.shutsIn(), 14);
    }

    private static void shutsInUpToGreatest() {
        LiftBeams lift = new LiftBeams();
        for (int which = 0; which < 3; which++) {
            lift.setSpeed(which, Checks.bits(0.5f));
        }
        lift.setNumber(0, 50);
        lift.call();
        Checks.due("200 + 50 + 200 ticks", lift.shutsIn(), 450);
    }

    private static void shutsInForecastsTheThing() {
        LiftBeams lift = Checks.quickClosing(0, 5);
        lift.setNumber(4, 5);
        lift.pass(7, 1);
        Checks.dueFloat("it would close slowly now", lift.speed(3), 2.0f);
        // 1 tick of opening, 1 of the wait, 2.0f in each of 2 ticks, 8.0f in each of 12.
        Checks.due("till the leaf is judged", lift.shutsIn(), 16);
        Checks.dueFloat("the place in 4 ticks", lift.placeIn(0, 4), 96.0f);
        Checks.dueFloat("the place in 5 ticks", lift.placeIn(0, 5), 88.0f);
        lift.setWeight(3, Checks.bits(2.0f));
        Checks.due("a person keeps it slow", lift.shutsIn(), 52);
        Checks.due("the thing is there", lift.thing(5), 0);
    }

    private static void placeIn() {
        LiftBeams lift = new LiftBeams();
        Checks.dueNaN("beams -1", lift.placeIn(-1, 0));
        Checks.dueNaN("beams 8", lift.placeIn(8, 0));
        Checks.dueNaN("ticks -1", lift.placeIn(0, -1));
        Checks.dueNaN("ticks 100", lift.placeIn(0, 100));
        Checks.dueFloat("a shut door", lift.placeIn(7, 99), 0.0f);
        lift.call();
        Checks.dueFloat("0 ticks", lift.placeIn(7, 0), 0.0f);
        Checks.dueFloat("3 ticks", lift.placeIn(7, 3), 30.0f);
        Checks.dueFloat("17 ticks", lift.placeIn(0, 17), 84.0f);
        Checks.dueFloat("99 ticks", lift.placeIn(0, 99), 0.0f);
        Checks.dueFloat("99 broken ticks", lift.placeIn(2, 99), 100.0f);
        for (int ticks = 1; ticks <= 40; ticks++) {
            LiftBeams other = Checks.closing();
            other.pass(0, 5);
            float forecast = other.placeIn(ticks % 8, ticks);
            other.pass(ticks % 8, ticks);
            Checks.dueFloat("the place after " + ticks, other.place(), forecast);
        }
    }

    private static void forecastsChangeNothing() {
        LiftBeams lift = Checks.closing();
        lift.pass(1, 1);
        lift.placeIn(7, 99);
        lift.placeIn(0, 99);
        lift.shutsIn();
        Checks.dueFloat("the place", lift.place(), 100.0f);
        Checks.due("the state", lift.door(0), 3);
        Checks.due("stood", lift.door(4), 1);
        Checks.due("the length", lift.thing(0), 1);
        Checks.due("the tick", lift.count(0), 16);
        Checks.due("no thing judged", lift.judged(0, 0), LiftBeams.NONE);
        int[] due = {16, 0, 0, 0, 0, 0, 0, 0, 1, 3, 0};
        for (int what = 0; what < 11; what++) {
            Checks.due("count " + what, lift.count(what), due[what]);
        }
    }

    private static void count() {
        LiftBeams lift = Checks.quickClosing(0, 0);
        lift.pass(7, 1);
        lift.serve();
        lift.pass(0, 20);
        lift.pass(6, 4);
        lift.pass(0, 3);
        lift.pass(1, 5);
        lift.pass(0, 3);
        lift.pass(7, 5);
        lift.pass(0, 3);
        lift.type('x');
        int[] due = {47, 1, 1, 1, 1, 1, 1, 1, 15, 4, 1};
        for (int what = 0; what < 11; what++) {
            Checks.due("count " + what, lift.count(what), due[what]);
        }
        Checks.due("count -1", lift.count(-1), LiftBeams.BAD_VALUE);
        Checks.due("count 11", lift.count(11), LiftBeams.BAD_VALUE);
    }
}
