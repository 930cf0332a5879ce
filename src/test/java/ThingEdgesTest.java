/** The sentences of "Beams and ticks", "Floats", "Things" and "Log", each at its boundaries. */
public final class ThingEdgesTest {
    private static final int LEAF = 0;
    private static final int HAND = 1;
    private static final int DOG = 2;
    private static final int PERSON = 3;

    public static void main(String[] args) {
        beamsAreBits();
        theTickIsZeroAtFirst();
        beginsInABrokenTickIfThereIsNone();
        beginsAnewWithNothingOfTheOneBefore();
        lengthAndCountsGrowInBrokenTicks();
        endsWhenClearForTheGap();
        clearTicksAreOneBehindTheOther();
        endsWhenClearForMoreThanTheGap();
        endsInNoBrokenTick();
        isJudgedOnceWhenItEnds();
        theNextOneBeginsInTheTickBehind();
        leafByLength();
        handByShareOfLow();
        dogByLowAndHigh();
        personByTheLeastShare();
        sharesAreOfTheSumNotTheLength();
        eachOperationIsRounded();
        productsByTheWeight();
        greatestProductAndTheLowestOfSeveral();
        theWeightsOfTheTickInWhichItEnds();
        logOfTen();
        logTellsAllOfEachThing();
        logOfMoreThanTwiceTen();
        judgedTellsTheBeamsThatWereBroken();
        Checks.finish("ThingEdgesTest");
    }

    // "In each tick, some of them are broken (0 to 7, as bits); 0 is told as clear."
    private static void beamsAreBits() {
        for (int beams = 1; beams <= 7; beams++) {
            LiftBeams lift = new LiftBeams();
            lift.pass(beams, 2);
            Checks.due("low of " + beams, lift.thing(1), (beams & 1) != 0 ? 2 : 0);
            Checks.due("middle of " + beams, lift.thing(2), (beams & 2) != 0 ? 2 : 0);
            Checks.due("high of " + beams, lift.thing(3), (beams & 4) != 0 ? 2 : 0);
            Checks.due("broken ticks of " + beams, lift.count(8), 2);
        }
        LiftBeams lift = new LiftBeams();
        lift.pass(0, 2);
        Checks.due("clear ticks are not broken", lift.count(8), 0);
        Checks.due("and no thing begins", lift.thing(0), LiftBeams.NONE);
    }

    // "The tick is 0 at first."
    private static void theTickIsZeroAtFirst() {
        LiftBeams lift = new LiftBeams();
        Checks.due("the tick", lift.count(0), 0);
        lift.pass(1, 1);
        Checks.due("the tick grew by 1", lift.count(0), 1);
        Checks.due("the thing began in tick 0", lift.thing(4), 0);
    }

    // "A thing begins in a tick in which any beam is broken, if there is none."
    private static void beginsInABrokenTickIfThereIsNone() {
        LiftBeams lift = new LiftBeams();
        lift.pass(0, 1);
        Checks.due("not in a clear tick", lift.thing(4), LiftBeams.NONE);
        lift.pass(4, 1);
        Checks.due("in a broken tick", lift.thing(4), 1);
        lift.pass(2, 1);
        Checks.due("not if there is one", lift.thing(4), 1);
        lift.pass(0, 2);
        lift.pass(1, 1);
        Checks.due("nor behind clear ticks of less than the gap", lift.thing(4), 1);
        lift.pass(0, 3);
        lift.pass(1, 1);
        Checks.due("but if it ended", lift.thing(4), 9);
    }

    private static void beginsAnewWithNothingOfTheOneBefore() {
        LiftBeams lift = Checks.quickClosing(5, 5);
        lift.pass(7, 4);
        lift.pass(0, 2);
        int[] first = {4, 4, 4, 4, 3, 2, 1, PERSON};
        for (int what = 0; what < 8; what++) {
            Checks.due("the first thing " + what, lift.thing(what), first[what]);
        }
        lift.setNumber(1, 5);
        lift.pass(0, 1);
        lift.pass(2, 1);
        int[] second = {1, 0, 1, 0, 10, 0, 0, LEAF};
        for (int what = 0; what < 8; what++) {
            Checks.due("the second thing " + what, lift.thing(what), second[what]);
        }
    }

    // "its length grows by 1 in each tick in which any beam is broken, and its count for a beam in each .."
    private static void lengthAndCountsGrowInBrokenTicks() {
        LiftBeams lift = new LiftBeams();
        int[] beams = {1, 3, 0, 7, 4, 0, 0, 6};
        int[][] due = {{1, 1, 0, 0, 0}, {2, 2, 1, 0, 0}, {2, 2, 1, 0, 1}, {3, 3, 2, 1, 0}, {4, 3, 2, 2, 0},
            {4, 3, 2, 2, 1}, {4, 3, 2, 2, 2}, {5, 3, 3, 3, 0}};
        for (int tick = 0; tick < beams.length; tick++) {
            lift.pass(beams[tick], 1);
            for (int what = 0; what < 4; what++) {
                Checks.due("tick " + tick + ", thing " + what, lift.thing(what), due[tick][what]);
            }
            Checks.due("tick " + tick + ", clear for", lift.thing(5), due[tick][4]);
        }
    }

    // "it ends in the clear tick in which it has been clear for as many ticks .. as the gap tells"
    private static void endsWhenClearForTheGap() {
        for (int gap = 1; gap <= 10; gap++) {
            LiftBeams lift = new LiftBeams();
            lift.setNumber(4, gap);
            lift.pass(3, 1);
            for (int clear = 1; clear < gap; clear++) {
                lift.pass(0, 1);
                Checks.due("gap " + gap + ", clear for " + clear, lift.thing(5), clear);
            }
            Checks.due("gap " + gap + ", not judged yet", lift.judged(0, 0), LiftBeams.NONE);
            lift.pass(0, 1);
            Checks.due("gap " + gap + ", it ended", lift.thing(5), LiftBeams.NONE);
            Checks.due("gap " + gap + ", in the tick", lift.judged(0, 4), gap);
        }
    }

    // "one behind the other"
    private static void clearTicksAreOneBehindTheOther() {
        for (int gap = 2; gap <= 10; gap++) {
            LiftBeams lift = new LiftBeams();
            lift.setNumber(4, gap);
            for (int time = 1; time <= 3; time++) {
                lift.pass(1, 1);
                Checks.due("gap " + gap + ", clear for none", lift.thing(5), 0);
                lift.pass(0, gap - 1);
                Checks.due("gap " + gap + ", it lasts", lift.thing(0), time);
            }
            lift.pass(0, 1);
            Checks.due("gap " + gap + ", it ended", lift.thing(0), LiftBeams.NONE);
        }
    }

    // ".. as the gap tells, or more": a gap that is set while the thing has been clear for 4 ticks.
    private static void endsWhenClearForMoreThanTheGap() {
        for (int gap = 1; gap <= 9; gap++) {
            LiftBeams lift = new LiftBeams();
            lift.setNumber(4, 10);
            lift.pass(1, 1);
            lift.pass(0, 4);
            lift.setNumber(4, gap);
            Checks.due("setting the gap " + gap + " ends nothing", lift.thing(5), 4);
            int more = Math.max(1, gap - 4);
            if (more > 1) {
                lift.pass(0, more - 1);
                Checks.due("the gap " + gap + " is not reached", lift.thing(5), gap - 1);
            }
            lift.pass(0, 1);
            Checks.due("the gap " + gap + ", it ended", lift.thing(5), LiftBeams.NONE);
            Checks.due("the gap " + gap + ", in the tick", lift.judged(0, 4), 4 + more);
        }
    }

    // "it ends in the clear tick": a broken one goes on with it, however low the gap was set.
    private static void endsInNoBrokenTick() {
        LiftBeams lift = new LiftBeams();
        lift.setNumber(4, 10);
        lift.pass(1, 1);
        lift.pass(0, 9);
        lift.setNumber(4, 2);
        lift.pass(1, 1);
        Checks.due("it lasts", lift.thing(0), 2);
        Checks.due("it is clear no more", lift.thing(5), 0);
        lift.pass(0, 1);
        Checks.due("clear for 1", lift.thing(5), 1);
        lift.pass(0, 1);
        Checks.due("clear for the gap", lift.thing(5), LiftBeams.NONE);
    }

    // "A thing is judged when it ends."
    private static void isJudgedOnceWhenItEnds() {
        LiftBeams lift = new LiftBeams();
        lift.pass(1, 5);
        lift.pass(0, 2);
        Checks.due("not ahead of its end", lift.count(3), 0);
        lift.pass(0, 1);
        Checks.due("at its end", lift.count(3), 1);
        lift.pass(0, 99);
        Checks.due("not behind its end", lift.count(3), 1);
        Checks.due("one is known", lift.judged(0, 0), DOG);
        Checks.due("no more", lift.judged(1, 0), LiftBeams.NONE);
    }

    private static void theNextOneBeginsInTheTickBehind() {
        LiftBeams lift = new LiftBeams();
        lift.setNumber(4, 1);
        lift.pass(1, 1);
        lift.pass(0, 1);
        lift.pass(4, 1);
        Checks.due("the next one began", lift.thing(4), 2);
        lift.pass(0, 1);
        Checks.due("two are known", lift.judged(1, 1), 0);
        Checks.due("the latest one began", lift.judged(0, 1), 2);
        Checks.due("and ended", lift.judged(0, 4), 3);
    }

    // "0, a leaf: 1.0f / n"
    private static void leafByLength() {
        LiftBeams lift = new LiftBeams();
        for (int length = 1; length <= 200; length++) {
            lift.pass(length % 7 + 1, 1);
            Checks.dueFloat("a leaf of the length " + length, lift.score(LEAF), 1.0f / length);
        }
    }

    // "1, a hand: (1.0f - L) * 0.75f"
    private static void handByShareOfLow() {
        Checks.dueFloat("a hand, low alone", scoreOf(HAND, 5, 0, 0), 0.0f);
        Checks.dueFloat("a hand, without low", scoreOf(HAND, 0, 1, 3), 0.75f);
        Checks.dueFloat("a hand, a quarter low", scoreOf(HAND, 1, 3, 0), 0.5625f);
        Checks.dueFloat("a hand, half low", scoreOf(HAND, 2, 0, 2), 0.375f);
    }

    // "2, a dog: L * (1.0f - H)"
    private static void dogByLowAndHigh() {
        Checks.dueFloat("a dog, low alone", scoreOf(DOG, 5, 0, 0), 1.0f);
        Checks.dueFloat("a dog, high alone", scoreOf(DOG, 0, 0, 5), 0.0f);
        Checks.dueFloat("a dog, without low", scoreOf(DOG, 0, 3, 1), 0.0f);
        Checks.dueFloat("a dog, low and middle", scoreOf(DOG, 1, 3, 0), 0.25f);
        Checks.dueFloat("a dog, low and high", scoreOf(DOG, 1, 0, 3), 0.0625f);
        Checks.dueFloat("a dog, all", scoreOf(DOG, 2, 1, 1), 0.375f);
    }

    // "3, a person: 3.0f times the least one of L, M and H"
    private static void personByTheLeastShare() {
        int[][] rows = {{1, 3, 4}, {1, 4, 3}, {3, 1, 4}, {4, 1, 3}, {3, 4, 1}, {4, 3, 1}};
        for (int[] row : rows) {
            Checks.dueFloat("a person, one least", scoreOf(PERSON, row[0], row[1], row[2]), 0.375f);
        }
        int[][] equal = {{2, 3, 3}, {3, 2, 3}, {3, 3, 2}, {2, 2, 4}, {2, 4, 2}, {4, 2, 2}};
        for (int[] row : equal) {
            Checks.dueFloat("a person, two alike", scoreOf(PERSON, row[0], row[1], row[2]), 0.75f);
        }
        int[][] without = {{0, 3, 4}, {3, 0, 4}, {3, 4, 0}, {0, 0, 1}, {0, 1, 0}, {1, 0, 0}};
        for (int[] row : without) {
            Checks.dueFloat("a person, one is none", scoreOf(PERSON, row[0], row[1], row[2]), 0.0f);
        }
    }

    // "s is their sum": of the counts, which is more than the length where a tick breaks several beams.
    private static void sharesAreOfTheSumNotTheLength() {
        LiftBeams lift = new LiftBeams();
        lift.pass(7, 2);
        lift.pass(3, 1);
        Checks.dueFloat("a leaf, by the length", lift.score(LEAF), 1.0f / 3.0f);
        Checks.dueFloat("a hand, by the sum", lift.score(HAND), (1.0f - 0.375f) * 0.75f);
        Checks.dueFloat("a dog, by the sum", lift.score(DOG), 0.375f * 0.75f);
        Checks.dueFloat("a person, by the sum", lift.score(PERSON), 0.75f);
    }

    // "Each operation with floats is done in floats .., rounded by itself, in the order that is told"
    private static void eachOperationIsRounded() {
        int told = 0;
        for (int low = 0; low <= 9; low++) {
            for (int middle = 0; middle <= 9; middle++) {
                for (int high = low + middle == 0 ? 1 : 0; high <= 9; high++) {
                    told += compareWithRounded(low, middle, high);
                }
            }
        }
        Checks.due("doubles would differ in some", told > 50 ? 1 : 0, 1);
    }

    private static int compareWithRounded(int low, int middle, int high) {
        float sum = low + middle + high;
        float l = low / sum;
        float h = high / sum;
        float least = Math.min(l, Math.min(middle / sum, h));
        float weight = 1.7f;
        LiftBeams lift = thingOf(low, middle, high);
        for (int kind = 0; kind < 4; kind++) {
            lift.setWeight(kind, Checks.bits(weight));
        }
        String of = " of " + low + ", " + middle + ", " + high;
        float leaf = 1.0f / sum;
        float fromOne = 1.0f - l;
        float hand = fromOne * 0.75f;
        float fromHigh = 1.0f - h;
        float dog = l * fromHigh;
        float person = 3.0f * least;
        Checks.dueFloat("a leaf" + of, lift.score(LEAF), leaf * weight);
        Checks.dueFloat("a hand" + of, lift.score(HAND), hand * weight);
        Checks.dueFloat("a dog" + of, lift.score(DOG), dog * weight);
        Checks.dueFloat("a person" + of, lift.score(PERSON), person * weight);
        double wide = (double) low / sum * (1.0 - (double) high / sum) * weight;
        return (float) wide == dog * weight ? 0 : 1;
    }

    // "Each score is multiplied by the weight of its kind (a float from 0.0f to 4.0f, at first 1.0f)."
    private static void productsByTheWeight() {
        float[] scores = {0.25f, 0.375f, 0.375f, 0.75f};
        for (int kind = 0; kind < 4; kind++) {
            LiftBeams lift = thingOf(2, 1, 1);
            Checks.dueFloat("the weight at first", lift.score(kind), scores[kind]);
            lift.setWeight(kind, 0);
            Checks.dueFloat("the least weight", lift.score(kind), 0.0f);
            lift.setWeight(kind, Checks.bits(4.0f));
            Checks.dueFloat("the greatest weight", lift.score(kind), scores[kind] * 4.0f);
            lift.setWeight(kind, 1);
            Checks.dueFloat("the least one above 0.0f", lift.score(kind), scores[kind] * Float.MIN_VALUE);
            for (int other = 0; other < 4; other++) {
                if (other != kind) {
                    Checks.dueFloat("another kind", lift.score(other), scores[other]);
                }
            }
        }
    }

    // "The kind with the greatest product is the one, of several the lowest."
    private static void greatestProductAndTheLowestOfSeveral() {
        for (int one = 0; one < 4; one++) {
            for (int other = one + 1; other < 4; other++) {
                LiftBeams lift = withEqualProducts();
                for (int kind = 0; kind < 4; kind++) {
                    if (kind != one && kind != other) {
                        lift.setWeight(kind, 0);
                    }
                }
                Checks.dueFloat("products are equal", lift.score(one), lift.score(other));
                Checks.due("the lowest of two", judgedAtOnce(lift), one);
                lift = withEqualProducts();
                lift.setWeight(other, Checks.bits(Math.nextUp(lift.weight(other))));
                Checks.due("the higher one is greater by a bit", judgedAtOnce(lift), other);
                lift = withEqualProducts();
                lift.setWeight(one, Checks.bits(Math.nextUp(lift.weight(one))));
                Checks.due("the lower one is greater by a bit", judgedAtOnce(lift), one);
            }
        }
        Checks.due("the lowest of four", judgedAtOnce(withEqualProducts()), LEAF);
        LiftBeams none = withEqualProducts();
        for (int kind = 0; kind < 4; kind++) {
            none.setWeight(kind, 0);
        }
        Checks.due("the lowest of four that are 0.0f", judgedAtOnce(none), LEAF);
    }

    /** A thing whose four products are 0.75f each. */
    private static LiftBeams withEqualProducts() {
        LiftBeams lift = new LiftBeams();
        lift.pass(1, 1);
        lift.pass(7, 1);
        float[] weights = {1.5f, 2.0f, 2.0f, 1.0f};
        for (int kind = 0; kind < 4; kind++) {
            lift.setWeight(kind, Checks.bits(weights[kind]));
            Checks.dueFloat("the product " + kind, lift.score(kind), 0.75f);
        }
        return lift;
    }

    /** The kind of the thing that is there, as it is told now, and as it is judged then. */
    private static int judgedAtOnce(LiftBeams lift) {
        int kind = lift.thing(7);
        lift.pass(0, 3);
        Checks.due("judged as it was told", lift.judged(0, 0), kind);
        return kind;
    }

    private static void theWeightsOfTheTickInWhichItEnds() {
        LiftBeams lift = new LiftBeams();
        lift.pass(1, 1);
        lift.pass(0, 2);
        Checks.due("a leaf till now", lift.thing(7), LEAF);
        lift.setWeight(LEAF, Checks.bits(0.5f));
        Checks.due("a dog by the new weight", lift.thing(7), DOG);
        lift.pass(0, 1);
        Checks.due("judged as a dog", lift.judged(0, 0), DOG);
        lift.setWeight(LEAF, Checks.bits(4.0f));
        Checks.due("what was judged stays", lift.judged(0, 0), DOG);
        Checks.due("the count of leaves", lift.count(1), 0);
        Checks.due("the count of dogs", lift.count(3), 1);
    }

    // "The latest 10 things that were judged are known."
    private static void logOfTen() {
        LiftBeams lift = new LiftBeams();
        lift.setNumber(4, 1);
        for (int things = 1; things <= 12; things++) {
            lift.pass(things % 7 + 1, things);
            lift.pass(0, 1);
            int oldest = Math.min(things, 10) - 1;
            Checks.due("the latest of " + things, lift.judged(0, 2), things);
            Checks.due("the oldest known of " + things, lift.judged(oldest, 2), things - oldest);
            Checks.due("one before of " + things, lift.judged(oldest + 1, 2), LiftBeams.NONE);
        }
        Checks.due("the dropped ones are counted though", lift.count(1) + lift.count(2) + lift.count(3)
            + lift.count(4), 12);
    }

    private static void logTellsAllOfEachThing() {
        LiftBeams lift = new LiftBeams();
        lift.setNumber(4, 2);
        int[] beams = {1, 6, 7, 4, 2, 7, 5, 3, 7, 1, 6, 3};
        int[] lengths = {3, 2, 9, 4, 1, 1, 3, 6, 8, 1, 7, 5};
        int[] kinds = {DOG, HAND, PERSON, HAND, LEAF, LEAF, HAND, DOG, PERSON, LEAF, HAND, DOG};
        int[] begun = new int[beams.length];
        for (int thing = 0; thing < beams.length; thing++) {
            begun[thing] = lift.count(0);
            lift.pass(beams[thing], lengths[thing]);
            lift.pass(0, 2);
        }
        for (int back = 0; back < 10; back++) {
            int thing = beams.length - 1 - back;
            int[] due = {kinds[thing], begun[thing], lengths[thing], beams[thing], begun[thing] + lengths[thing] + 1};
            for (int what = 0; what < 5; what++) {
                Checks.due("judged " + back + ", " + what, lift.judged(back, what), due[what]);
            }
        }
    }

    private static void logOfMoreThanTwiceTen() {
        LiftBeams lift = new LiftBeams();
        lift.setNumber(4, 1);
        for (int things = 1; things <= 31; things++) {
            lift.pass(1, 1);
            lift.pass(0, 1);
        }
        for (int back = 0; back < 10; back++) {
            Checks.due("back " + back + " began", lift.judged(back, 1), 60 - 2 * back);
            Checks.due("back " + back + " ended", lift.judged(back, 4), 61 - 2 * back);
        }
        Checks.due("the eleventh", lift.judged(10, 4), LiftBeams.NONE);
        Checks.due("all are counted", lift.count(1), 31);
    }

    // judged(): "3 for the beams that it broke (as bits)"
    private static void judgedTellsTheBeamsThatWereBroken() {
        int[][] rows = {{1, 2, 3}, {1, 4, 5}, {2, 4, 6}, {4, 4, 4}, {3, 4, 7}, {2, 2, 2}, {1, 1, 1}, {5, 1, 5}};
        for (int[] row : rows) {
            LiftBeams lift = new LiftBeams();
            lift.pass(row[0], 1);
            lift.pass(0, 2);
            lift.pass(row[1], 2);
            lift.pass(0, 3);
            Checks.due("the beams of " + row[0] + " and " + row[1], lift.judged(0, 3), row[2]);
            Checks.due("the length", lift.judged(0, 2), 3);
        }
    }

    /** An object with a thing that broke one beam in each tick, the low one first. */
    private static LiftBeams thingOf(int low, int middle, int high) {
        LiftBeams lift = new LiftBeams();
        int[] counts = {low, middle, high};
        for (int beam = 0; beam < 3; beam++) {
            if (counts[beam] > 0) {
                lift.pass(1 << beam, counts[beam]);
            }
        }
        return lift;
    }

    private static float scoreOf(int kind, int low, int middle, int high) {
        return thingOf(low, middle, high).score(kind);
    }
}
