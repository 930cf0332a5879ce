/** The door of a lift with three beams across it; ../shared/DOC.md says what it does. */
public final class LiftBeams {
    public static final int UNKNOWN = -1;
    public static final int BAD_VALUE = -2;
    public static final int FULL = -3;
    public static final int NOT_POSSIBLE = -4;
    public static final int NONE = -5;

    private static final int SHUT = 0;
    private static final int OPENING = 1;
    private static final int OPEN = 2;
    private static final int CLOSING = 3;

    private static final int FOR_OPENING = 0;
    private static final int FOR_CLOSING = 1;
    private static final int FOR_CLOSING_SLOWLY = 2;
    private static final int SPEEDS = 3;

    private static final int LEAF = 0;
    private static final int HAND = 1;
    private static final int DOG = 2;
    private static final int PERSON = 3;
    private static final int KINDS = 4;

    private static final int DWELL = 0;
    private static final int PATIENCE = 1;
    private static final int LIMIT = 2;
    private static final int REST = 3;
    private static final int GAP = 4;
    private static final int[] LEAST_NUMBERS = {1, 0, 0, 0, 1};
    private static final int[] GREATEST_NUMBERS = {50, 5, 5, 5, 10};

    // The bits of floats that are not negative are in the order of the floats,
    // and those of a NaN, of -0.0f and of all that is negative lie outside.
    private static final int BITS_OF_HALF = 0x3F000000;
    private static final int BITS_OF_FIFTY = 0x42480000;
    private static final int BITS_OF_ZERO = 0;
    private static final int BITS_OF_FOUR = 0x40800000;

    private static final int ALL_BEAMS = 7;
    private static final int MOST_TICKS = 99;
    private static final int LAST_TICK = 99999;
    private static final int MOST_TICKS_TILL_SHUT = 500;
    private static final int FAULT_AT_START = -100;

    private final State now = new State();
    private final State forecast = new State();
    private final State snapshot = new State();
    private final History history = new History();
    private final BeamText text = new BeamText();
    private boolean snapshotTaken;

    public LiftBeams() {
    }

    // ---- settings

    public int setSpeed(int which, int bits) {
        if (which < 0 || which >= SPEEDS) {
            return UNKNOWN;
        }
        if (bits < BITS_OF_HALF || bits > BITS_OF_FIFTY) {
            return BAD_VALUE;
        }
        float value = floatOfBits(bits);
        if (now.settings.speedFor(which) == value) {
            return NONE;
        }
        history.record(now);
        now.settings.changeSpeed(which, value);
        return 1;
    }

    public int setWeight(int kind, int bits) {
        if (kind < 0 || kind >= KINDS) {
            return UNKNOWN;
        }
        if (bits < BITS_OF_ZERO || bits > BITS_OF_FOUR) {
            return BAD_VALUE;
        }
        float value = floatOfBits(bits);
        if (now.settings.weightOf(kind) == value) {
            return NONE;
        }
        history.record(now);
        now.settings.changeWeight(kind, value);
        return 1;
    }

    public int setNumber(int which, int value) {
        if (which < 0 || which >= LEAST_NUMBERS.length || which >= GREATEST_NUMBERS.length) {
            return UNKNOWN;
        }
        if (value < LEAST_NUMBERS[which] || value > GREATEST_NUMBERS[which]) {
            return BAD_VALUE;
        }
        int previous = now.settings.numberOf(which);
        if (previous == value) {
            return NONE;
        }
        history.record(now);
        now.settings.changeNumber(which, value);
        return previous;
    }

    // ---- the door

    public int call() {
        if (now.door.state == OPENING) {
            return NOT_POSSIBLE;
        }
        history.record(now);
        int before = now.door.state;
        now.door.obeyCall();
        return before;
    }

    public int serve() {
        if (!now.door.service) {
            return NOT_POSSIBLE;
        }
        history.record(now);
        int before = now.door.reopened;
        now.door.service = false;
        now.door.reopened = 0;
        return before;
    }

    public int pass(int beams, int ticks) {
        if (beams < 0 || beams > ALL_BEAMS || ticks < 1 || ticks > MOST_TICKS) {
            return BAD_VALUE;
        }
        if (now.tick + ticks > LAST_TICK) {
            return FULL;
        }
        history.record(now);
        now.goThrough(beams, ticks);
        return now.door.state;
    }

    public int readBeams() {
        int fault = text.parse();
        if (fault != BeamText.NO_FAULT) {
            return FAULT_AT_START - fault;
        }
        int ticks = text.ticksOfAllParts();
        if (now.tick + ticks > LAST_TICK) {
            return FULL;
        }
        history.record(now);
        for (int part = 0; part < text.parts; part++) {
            now.goThrough(text.beamsOf(part), text.ticksOf(part));
        }
        return ticks;
    }

    // ---- texts

    public int type(char character) {
        return text.append(character) ? text.length : FULL;
    }

    public int clearText() {
        int before = text.length;
        text.length = 0;
        return before;
    }

    // ---- history

    public int undo() {
        return history.takeBack(now) ? history.size : NONE;
    }

    public int keep() {
        snapshot.copyFrom(now);
        snapshotTaken = true;
        return now.tick;
    }

    public int restore() {
        if (!snapshotTaken) {
            return NONE;
        }
        history.record(now);
        now.copyFrom(snapshot);
        return now.tick;
    }

    // ---- what is told

    public float place() {
        return now.door.place;
    }

    public float speed(int which) {
        return now.settings.speedFor(which == SPEEDS ? now.speedOfClosing() : which);
    }

    public float weight(int kind) {
        return now.settings.weightOf(kind);
    }

    public float score(int kind) {
        if (kind < 0 || kind >= KINDS || !now.thing.there) {
            return notANumber();
        }
        return now.thing.product(kind, now.settings.weightOf(kind));
    }

    public int number(int which) {
        return now.settings.numberOf(which);
    }

    public int door(int what) {
        switch (what) {
            case 0: return now.door.state;
            case 1: return now.door.reopened;
            case 2: return oneIf(now.door.service);
            case 3: return now.door.state == OPEN ? now.door.waited : 0;
            case 4: return now.door.state == CLOSING ? now.door.stood : 0;
            case 5: return (int) now.door.place;
            default: return BAD_VALUE;
        }
    }

    public int thing(int what) {
        if (what < 0 || what > 7) {
            return BAD_VALUE;
        }
        if (!now.thing.there) {
            return NONE;
        }
        switch (what) {
            case 0: return now.thing.length;
            case 1: return now.thing.low;
            case 2: return now.thing.middle;
            case 3: return now.thing.high;
            case 4: return now.thing.begun;
            case 5: return now.thing.clear;
            case 6: return oneIf(now.thing.cause);
            default: return now.thing.likeliestKind(now.settings);
        }
    }

    public int judged(int back, int what) {
        if (back < 0 || what < 0 || what >= Log.WIDTH) {
            return BAD_VALUE;
        }
        return now.log.entry(back, what);
    }

    public int shutsIn() {
        forecast.copyFrom(now);
        for (int ticks = 0; ticks <= MOST_TICKS_TILL_SHUT; ticks++) {
            if (forecast.door.state == SHUT) {
                return ticks;
            }
            forecast.goOn(0);
        }
        return NONE;
    }

    public float placeIn(int beams, int ticks) {
        if (beams < 0 || beams > ALL_BEAMS || ticks < 0 || ticks > MOST_TICKS) {
            return notANumber();
        }
        forecast.copyFrom(now);
        forecast.goThrough(beams, ticks);
        return forecast.door.place;
    }

    public int count(int what) {
        switch (what) {
            case 0: return now.tick;
            case 1: return now.tally.leaves;
            case 2: return now.tally.hands;
            case 3: return now.tally.dogs;
            case 4: return now.tally.persons;
            case 5: return now.tally.shuts;
            case 6: return now.tally.reopenings;
            case 7: return now.tally.servicesCalled;
            case 8: return now.tally.ticksBroken;
            case 9: return history.size;
            case 10: return text.length;
            default: return BAD_VALUE;
        }
    }

    private static int oneIf(boolean condition) {
        return condition ? 1 : 0;
    }

    // The document asks for this one where there is no such speed, weight, score or place.
    private static float notANumber() {
        return 0.0f / 0.0f;
    }

    /** The float that has these bits, which are from 0 to those of 50.0f. */
    private static float floatOfBits(int bits) {
        int exponent = bits >>> 23;
        int fraction = bits & 0x7FFFFF;
        // The subnormal numbers lack the leading one, and share the least exponent of the others.
        boolean subnormal = exponent == 0;
        float value = (float) (subnormal ? fraction : fraction | 0x800000);
        // Each halving is exact, as no bit falls below the last place that a float has.
        for (int halvings = subnormal ? 149 : 150 - exponent; halvings > 0; halvings--) {
            value = value * 0.5f;
        }
        return value;
    }

    /** All that undo() and restore() bring back. */
    private static final class State {
        final Settings settings = new Settings();
        final Thing thing = new Thing();
        final Door door = new Door();
        final Log log = new Log();
        final Tally tally = new Tally();
        int tick;

        void copyFrom(State other) {
            settings.copyFrom(other.settings);
            thing.copyFrom(other.thing);
            door.copyFrom(other.door);
            log.copyFrom(other.log);
            tally.copyFrom(other.tally);
            tick = other.tick;
        }

        void goThrough(int beams, int ticks) {
            for (int done = 0; done < ticks; done++) {
                goOn(beams);
            }
        }

        void goOn(int beams) {
            if (beams != 0) {
                tally.ticksBroken++;
                thing.breakBeams(beams, tick);
            } else if (thing.endsInClearTick(settings.numberOf(GAP))) {
                judgeThing();
            }
            moveDoor(beams != 0);
            tick++;
        }

        int speedOfClosing() {
            return door.reopened > settings.numberOf(LIMIT) ? FOR_CLOSING_SLOWLY : FOR_CLOSING;
        }

        private void judgeThing() {
            int kind = thing.likeliestKind(settings);
            log.enter(kind, thing, tick);
            tally.addJudged(kind);
            if (kind == LEAF && thing.cause && door.reopened > 0) {
                door.reopened--;
            }
            thing.there = false;
        }

        private void moveDoor(boolean broken) {
            switch (door.state) {
                case OPENING:
                    door.openFurther(settings.speedFor(FOR_OPENING));
                    break;
                case OPEN:
                    door.waitOpen(broken, settings.numberOf(DWELL));
                    break;
                case CLOSING:
                    closeOrStand(broken);
                    break;
                default:
                    break;
            }
        }

        private void closeOrStand(boolean broken) {
            if (!broken) {
                if (door.closeFurther(settings.speedFor(speedOfClosing()))) {
                    tally.shuts++;
                }
            } else if (door.standsTooLong(settings.numberOf(PATIENCE))) {
                openAgain();
            }
        }

        private void openAgain() {
            door.state = OPENING;
            door.reopened++;
            tally.reopenings++;
            thing.cause = true;
            if (door.reopened > settings.numberOf(LIMIT) + settings.numberOf(REST)) {
                door.service = true;
                tally.servicesCalled++;
            }
        }
    }

    private static final class Settings {
        final float[] speeds = {10.0f, 8.0f, 2.0f};
        final float[] weights = {1.0f, 1.0f, 1.0f, 1.0f};
        final int[] numbers = {5, 1, 2, 2, 3};

        void copyFrom(Settings other) {
            for (int i = 0; i < speeds.length && i < other.speeds.length; i++) {
                speeds[i] = other.speeds[i];
            }
            for (int i = 0; i < weights.length && i < other.weights.length; i++) {
                weights[i] = other.weights[i];
            }
            for (int i = 0; i < numbers.length && i < other.numbers.length; i++) {
                numbers[i] = other.numbers[i];
            }
        }

        float speedFor(int which) {
            return which < 0 || which >= speeds.length ? notANumber() : speeds[which];
        }

        void changeSpeed(int which, float value) {
            if (which >= 0 && which < speeds.length) {
                speeds[which] = value;
            }
        }

        float weightOf(int kind) {
            return kind < 0 || kind >= weights.length ? notANumber() : weights[kind];
        }

        void changeWeight(int kind, float value) {
            if (kind >= 0 && kind < weights.length) {
                weights[kind] = value;
            }
        }

        int numberOf(int which) {
            return which < 0 || which >= numbers.length ? UNKNOWN : numbers[which];
        }

        void changeNumber(int which, int value) {
            if (which >= 0 && which < numbers.length) {
                numbers[which] = value;
            }
        }
    }

    /** What comes between the beams, from its first broken tick till it is judged. */
    private static final class Thing {
        boolean there;
        int begun;
        int length;
        int low;
        int middle;
        int high;
        int clear;
        boolean cause;

        void copyFrom(Thing other) {
            there = other.there;
            begun = other.begun;
            length = other.length;
            low = other.low;
            middle = other.middle;
            high = other.high;
            clear = other.clear;
            cause = other.cause;
        }

        void breakBeams(int beams, int tick) {
            if (!there) {
                begin(tick);
            }
            length++;
            low += beams & 1;
            middle += beams >> 1 & 1;
            high += beams >> 2 & 1;
            clear = 0;
        }

        boolean endsInClearTick(int gap) {
            if (!there) {
                return false;
            }
            clear++;
            return clear >= gap;
        }

        int likeliestKind(Settings settings) {
            int best = LEAF;
            float bestProduct = product(LEAF, settings.weightOf(LEAF));
            for (int kind = LEAF + 1; kind < KINDS; kind++) {
                float product = product(kind, settings.weightOf(kind));
                if (product > bestProduct) {
                    best = kind;
                    bestProduct = product;
                }
            }
            return best;
        }

        float product(int kind, float weight) {
            return likeness(kind) * weight;
        }

        int beamsBroken() {
            return oneIf(low > 0) + 2 * oneIf(middle > 0) + 4 * oneIf(high > 0);
        }

        private void begin(int tick) {
            there = true;
            begun = tick;
            length = 0;
            low = 0;
            middle = 0;
            high = 0;
            cause = false;
        }

        private float likeness(int kind) {
            int sum = low + middle + high;
            if (length == 0 || sum == 0) {
                return 0.0f;
            }
            float lowShare = (float) low / (float) sum;
            float middleShare = (float) middle / (float) sum;
            float highShare = (float) high / (float) sum;
            float lesserShare = lowShare < middleShare ? lowShare : middleShare;
            switch (kind) {
                case LEAF: return 1.0f / (float) length;
                case HAND: return (1.0f - lowShare) * 0.75f;
                case DOG: return lowShare * (1.0f - highShare);
                case PERSON: return 3.0f * (highShare < lesserShare ? highShare : lesserShare);
                default: return 0.0f;
            }
        }
    }

    private static final class Door {
        float place;
        int state = SHUT;
        int waited;
        int stood;
        int reopened;
        boolean service;

        void copyFrom(Door other) {
            place = other.place;
            state = other.state;
            waited = other.waited;
            stood = other.stood;
            reopened = other.reopened;
            service = other.service;
        }

        void obeyCall() {
            if (state == OPEN) {
                waited = 0;
            } else {
                state = OPENING;
            }
        }

        void openFurther(float speed) {
            place = place + speed;
            if (place >= 100.0f) {
                place = 100.0f;
                state = OPEN;
                waited = 0;
            }
        }

        void waitOpen(boolean broken, int dwell) {
            if (broken) {
                waited = 0;
                return;
            }
            waited++;
            if (waited >= dwell && !service) {
                state = CLOSING;
                stood = 0;
            }
        }

        boolean standsTooLong(int patience) {
            stood++;
            return stood > patience;
        }

        /** Tells whether the door came to be shut. */
        boolean closeFurther(float speed) {
            stood = 0;
            place = place - speed;
            if (place > 0.0f) {
                return false;
            }
            place = 0.0f;
            state = SHUT;
            reopened = 0;
            return true;
        }
    }

    /** The latest things that were judged, the latest one first. */
    private static final class Log {
        static final int ROWS = 10;
        static final int WIDTH = 5;
        final int[] cells = new int[ROWS * WIDTH];
        int rows;

        void copyFrom(Log other) {
            for (int i = 0; i < cells.length && i < other.cells.length; i++) {
                cells[i] = other.cells[i];
            }
            rows = other.rows;
        }

        void enter(int kind, Thing thing, int tick) {
            for (int i = cells.length - 1; i >= WIDTH; i--) {
                cells[i] = cells[i - WIDTH];
            }
            cells[0] = kind;
            cells[1] = thing.begun;
            cells[2] = thing.length;
            cells[3] = thing.beamsBroken();
            cells[4] = tick;
            if (rows < ROWS) {
                rows++;
            }
        }

        int entry(int back, int what) {
            boolean known = back >= 0 && back < rows && back < ROWS && what >= 0 && what < WIDTH;
            return known ? cells[back * WIDTH + what] : NONE;
        }
    }

    /** What is counted since the object was made. */
    private static final class Tally {
        int leaves;
        int hands;
        int dogs;
        int persons;
        int shuts;
        int reopenings;
        int servicesCalled;
        int ticksBroken;

        void copyFrom(Tally other) {
            leaves = other.leaves;
            hands = other.hands;
            dogs = other.dogs;
            persons = other.persons;
            shuts = other.shuts;
            reopenings = other.reopenings;
            servicesCalled = other.servicesCalled;
            ticksBroken = other.ticksBroken;
        }

        void addJudged(int kind) {
            switch (kind) {
                case LEAF: leaves++; break;
                case HAND: hands++; break;
                case DOG: dogs++; break;
                case PERSON: persons++; break;
                default: break;
            }
        }
    }

    /** The states to go back to, the oldest one first; the rows are made once and used again. */
    private static final class History {
        static final int MOST_STATES = 4;
        final State[] states = new State[MOST_STATES];
        int size;

        History() {
            for (int i = 0; i < states.length; i++) {
                states[i] = new State();
            }
        }

        void record(State state) {
            if (size >= states.length) {
                dropOldest();
            }
            if (size >= 0 && size < states.length) {
                states[size].copyFrom(state);
                size++;
            }
        }

        /** Tells whether there was a state to take back. */
        boolean takeBack(State into) {
            if (size <= 0 || size > states.length) {
                return false;
            }
            size--;
            into.copyFrom(states[size]);
            return true;
        }

        private void dropOldest() {
            State oldest = states[0];
            for (int i = 1; i < states.length; i++) {
                states[i - 1] = states[i];
            }
            states[states.length - 1] = oldest;
            size = states.length - 1;
        }
    }

    /** The text that is typed, and the parts that the latest parse() found in it. */
    private static final class BeamText {
        static final int NO_FAULT = -1;
        private static final int MOST_CHARACTERS = 60;
        // Where in a part the reading stands.
        private static final int AHEAD_OF_PART = 0;
        private static final int BEHIND_BEAMS = 1;
        private static final int BEHIND_STAR = 2;
        private static final int BEHIND_FIRST_DIGIT = 3;
        private static final int BEHIND_SECOND_DIGIT = 4;
        private static final int NOT_ALLOWED = 5;

        final char[] characters = new char[MOST_CHARACTERS];
        int length;
        final int[] beams = new int[MOST_CHARACTERS];
        final int[] ticks = new int[MOST_CHARACTERS];
        int parts;

        boolean append(char character) {
            if (length < 0 || length >= characters.length) {
                return false;
            }
            characters[length] = character;
            length++;
            return true;
        }

        /** Finds the parts; returns the fault of the text, or NO_FAULT. */
        int parse() {
            parts = 0;
            int stand = AHEAD_OF_PART;
            for (int i = 0; i < length && i < characters.length; i++) {
                stand = standBehind(characters[i], stand);
                if (stand == NOT_ALLOWED) {
                    return i;
                }
                take(characters[i] - '0', stand);
            }
            return stand == AHEAD_OF_PART || stand == BEHIND_STAR ? length : NO_FAULT;
        }

        int beamsOf(int part) {
            return part < 0 || part >= beams.length ? 0 : beams[part];
        }

        int ticksOf(int part) {
            return part < 0 || part >= ticks.length ? 0 : ticks[part];
        }

        int ticksOfAllParts() {
            int sum = 0;
            for (int part = 0; part < parts; part++) {
                sum += ticksOf(part);
            }
            return sum;
        }

        private static int standBehind(char character, int stand) {
            switch (stand) {
                case AHEAD_OF_PART:
                    return isFrom('0', '7', character) ? BEHIND_BEAMS : NOT_ALLOWED;
                case BEHIND_BEAMS:
                    return character == '*' ? BEHIND_STAR : standBehindPart(character);
                case BEHIND_STAR:
                    return isFrom('1', '9', character) ? BEHIND_FIRST_DIGIT : NOT_ALLOWED;
                case BEHIND_FIRST_DIGIT:
                    return isFrom('0', '9', character)
                        ? BEHIND_SECOND_DIGIT : standBehindPart(character);
                default:
                    return standBehindPart(character);
            }
        }

        private static int standBehindPart(char character) {
            return character == ',' ? AHEAD_OF_PART : NOT_ALLOWED;
        }

        private static boolean isFrom(char first, char last, char character) {
            return character >= first && character <= last;
        }

        private void take(int digit, int stand) {
            if (stand == BEHIND_BEAMS) {
                addPart(digit);
            } else if (stand == BEHIND_FIRST_DIGIT) {
                changeTicksOfLastPart(digit);
            } else if (stand == BEHIND_SECOND_DIGIT) {
                changeTicksOfLastPart(ticksOf(parts - 1) * 10 + digit);
            }
        }

        private void addPart(int digit) {
            if (parts >= 0 && parts < beams.length && parts < ticks.length) {
                beams[parts] = digit;
                ticks[parts] = 1;
                parts++;
            }
        }

        private void changeTicksOfLastPart(int value) {
            if (parts > 0 && parts <= ticks.length) {
                ticks[parts - 1] = value;
            }
        }
    }
}
