import java.util.ArrayDeque;
import java.util.ArrayList;
import java.util.Deque;
import java.util.List;
import java.util.regex.Matcher;
import java.util.regex.Pattern;

/** The document once more, written another way: whole copies of states, regular expressions, library floats. */
final class Model {
    private static final Pattern TEXT = Pattern.compile("[0-7](\\*[1-9][0-9]?)?(,[0-7](\\*[1-9][0-9]?)?)*");
    private static final int[][] RANGES = {{1, 50}, {0, 5}, {0, 5}, {0, 5}, {1, 10}};

    private State state = new State();
    private State snapshot;
    private final Deque<State> history = new ArrayDeque<>();
    private String text = "";

    /** What was broken since a thing began, tick by tick. */
    private static final class Thing {
        int begun;
        boolean cause;
        List<Integer> ticks = new ArrayList<>();

        Thing copy() {
            Thing copy = new Thing();
            copy.begun = begun;
            copy.cause = cause;
            copy.ticks = new ArrayList<>(ticks);
            return copy;
        }

        int length() {
            return (int) ticks.stream().filter(beams -> beams != 0).count();
        }

        int broken(int beam) {
            return (int) ticks.stream().filter(beams -> (beams & beam) != 0).count();
        }

        int clear() {
            int last = ticks.size();
            while (last > 0 && ticks.get(last - 1) == 0) {
                last--;
            }
            return ticks.size() - last;
        }

        int beams() {
            return ticks.stream().reduce(0, (a, b) -> a | b);
        }

        float product(int kind, float[] weights) {
            int sum = broken(1) + broken(2) + broken(4);
            float l = (float) broken(1) / sum;
            float m = (float) broken(2) / sum;
            float h = (float) broken(4) / sum;
            float[] scores = {1.0f / length(), (1.0f - l) * 0.75f, l * (1.0f - h), 3.0f * Math.min(Math.min(l, m), h)};
            return scores[kind] * weights[kind];
        }

        int kind(float[] weights) {
            int best = 0;
            for (int kind = 3; kind >= 0; kind--) {
                if (product(kind, weights) >= product(best, weights)) {
                    best = kind;
                }
            }
            for (int kind = 0; kind < best; kind++) {
                if (product(kind, weights) == product(best, weights)) {
                    return kind;
                }
            }
            return best;
        }
    }

    private static final class State {
        float[] speeds = {10.0f, 8.0f, 2.0f};
        float[] weights = {1.0f, 1.0f, 1.0f, 1.0f};
        int[] numbers = {5, 1, 2, 2, 3};
        int tick;
        float place;
        String name = "shut";
        int waited;
        int stood;
        int again;
        boolean service;
        Thing thing;
        List<int[]> judged = new ArrayList<>();
        int shuts;
        int agains;
        int services;
        int broken;

        State copy() {
            State copy = new State();
            copy.speeds = speeds.clone();
            copy.weights = weights.clone();
            copy.numbers = numbers.clone();
            copy.tick = tick;
            copy.place = place;
            copy.name = name;
            copy.waited = waited;
            copy.stood = stood;
            copy.again = again;
            copy.service = service;
            copy.thing = thing == null ? null : thing.copy();
            copy.judged = new ArrayList<>(judged);
            copy.shuts = shuts;
            copy.agains = agains;
            copy.services = services;
            copy.broken = broken;
            return copy;
        }

        int number() {
            return List.of("shut", "opening", "open", "closing").indexOf(name);
        }

        int closingSpeed() {
            return again > numbers[2] ? 2 : 1;
        }

        void tick(int beams) {
            if (beams > 0) {
                broken++;
                if (thing == null) {
                    thing = new Thing();
                    thing.begun = tick;
                }
            }
            if (thing != null) {
                thing.ticks.add(beams);
                if (thing.clear() >= numbers[4]) {
                    judge();
                }
            }
            move(beams > 0);
            tick++;
        }

        void judge() {
            int kind = thing.kind(weights);
            judged.add(0, new int[] {kind, thing.begun, thing.length(), thing.beams(), tick});
            if (kind == 0 && thing.cause) {
                again = Math.max(0, again - 1);
            }
            thing = null;
        }

        void move(boolean anyBroken) {
            if (name.equals("opening")) {
                place = Math.min(100.0f, place + speeds[0]);
                if (place == 100.0f) {
                    name = "open";
                    waited = 0;
                }
            } else if (name.equals("open")) {
                waited = anyBroken ? 0 : waited + 1;
                if (!anyBroken && !service && waited >= numbers[0]) {
                    name = "closing";
                    stood = 0;
                }
            } else if (name.equals("closing")) {
                close(anyBroken);
            }
        }

        void close(boolean anyBroken) {
            stood = anyBroken ? stood + 1 : 0;
            if (!anyBroken) {
                place = Math.max(0.0f, place - speeds[closingSpeed()]);
                if (place == 0.0f) {
                    name = "shut";
                    again = 0;
                    shuts++;
                }
            } else if (stood > numbers[1]) {
                name = "opening";
                again++;
                agains++;
                thing.cause = true;
                if (again > numbers[2] + numbers[3]) {
                    service = true;
                    services++;
                }
            }
        }
    }

    private void record() {
        history.push(state.copy());
        if (history.size() > 4) {
            history.removeLast();
        }
    }

    int setSpeed(int which, int bits) {
        if (which < 0 || which > 2) {
            return -1;
        }
        float value = Float.intBitsToFloat(bits);
        if (!(value >= 0.5f && value <= 50.0f)) {
            return -2;
        }
        if (state.speeds[which] == value) {
            return -5;
        }
        record();
        state.speeds[which] = value;
        return 1;
    }

    int setWeight(int kind, int bits) {
        if (kind < 0 || kind > 3) {
            return -1;
        }
        float value = Float.intBitsToFloat(bits);
        if (!(value >= 0.0f && value <= 4.0f) || bits == Integer.MIN_VALUE) {
            return -2;
        }
        if (state.weights[kind] == value) {
            return -5;
        }
        record();
        state.weights[kind] = value;
        return 1;
    }

    int setNumber(int which, int value) {
        if (which < 0 || which > 4) {
            return -1;
        }
        if (value < RANGES[which][0] || value > RANGES[which][1]) {
            return -2;
        }
        int previous = state.numbers[which];
        if (previous == value) {
            return -5;
        }
        record();
        state.numbers[which] = value;
        return previous;
    }

    int call() {
        int before = state.number();
        if (before == 1) {
            return -4;
        }
        record();
        if (before == 2) {
            state.waited = 0;
        } else {
            state.name = "opening";
        }
        return before;
    }

    int serve() {
        if (!state.service) {
            return -4;
        }
        record();
        int before = state.again;
        state.again = 0;
        state.service = false;
        return before;
    }

    int pass(int beams, int ticks) {
        if (beams < 0 || beams > 7 || ticks < 1 || ticks > 99) {
            return -2;
        }
        if (state.tick + ticks > 99999) {
            return -3;
        }
        record();
        for (int i = 0; i < ticks; i++) {
            state.tick(beams);
        }
        return state.number();
    }

    int readBeams() {
        if (!TEXT.matcher(text).matches()) {
            return -100 - fault();
        }
        List<Integer> all = new ArrayList<>();
        for (String part : text.split(",")) {
            int ticks = part.length() > 1 ? Integer.parseInt(part.substring(2)) : 1;
            for (int i = 0; i < ticks; i++) {
                all.add(part.charAt(0) - '0');
            }
        }
        if (state.tick + all.size() > 99999) {
            return -3;
        }
        record();
        for (int beams : all) {
            state.tick(beams);
        }
        return all.size();
    }

    /** The first character with which the text can't be gone on with to one of beams. */
    private int fault() {
        for (int i = 0; i < text.length(); i++) {
            Matcher matcher = TEXT.matcher(text.substring(0, i + 1));
            if (!matcher.matches() && !matcher.hitEnd()) {
                return i;
            }
        }
        return text.length();
    }

    int type(char character) {
        if (text.length() == 60) {
            return -3;
        }
        text += character;
        return text.length();
    }

    int clearText() {
        int before = text.length();
        text = "";
        return before;
    }

    int undo() {
        if (history.isEmpty()) {
            return -5;
        }
        state = history.pop();
        return history.size();
    }

    int keep() {
        snapshot = state.copy();
        return state.tick;
    }

    int restore() {
        if (snapshot == null) {
            return -5;
        }
        record();
        state = snapshot.copy();
        return state.tick;
    }

    float place() {
        return state.place;
    }

    float speed(int which) {
        if (which < 0 || which > 3) {
            return Float.NaN;
        }
        return state.speeds[which == 3 ? state.closingSpeed() : which];
    }

    float weight(int kind) {
        return kind < 0 || kind > 3 ? Float.NaN : state.weights[kind];
    }

    float score(int kind) {
        return kind < 0 || kind > 3 || state.thing == null ? Float.NaN : state.thing.product(kind, state.weights);
    }

    int number(int which) {
        return which < 0 || which > 4 ? -1 : state.numbers[which];
    }

    int door(int what) {
        if (what < 0 || what > 5) {
            return -2;
        }
        return new int[] {state.number(), state.again, state.service ? 1 : 0,
            state.name.equals("open") ? state.waited : 0, state.name.equals("closing") ? state.stood : 0,
            (int) Math.floor(state.place)}[what];
    }

    int thing(int what) {
        if (what < 0 || what > 7) {
            return -2;
        }
        Thing thing = state.thing;
        if (thing == null) {
            return -5;
        }
        return new int[] {thing.length(), thing.broken(1), thing.broken(2), thing.broken(4), thing.begun,
            thing.clear(), thing.cause ? 1 : 0, thing.kind(state.weights)}[what];
    }

    int judged(int back, int what) {
        if (back < 0 || what < 0 || what > 4) {
            return -2;
        }
        return back >= Math.min(10, state.judged.size()) ? -5 : state.judged.get(back)[what];
    }

    int shutsIn() {
        State later = state.copy();
        int ticks = 0;
        while (!later.name.equals("shut")) {
            if (ticks == 500) {
                return -5;
            }
            later.tick(0);
            ticks++;
        }
        return ticks;
    }

    float placeIn(int beams, int ticks) {
        if (beams < 0 || beams > 7 || ticks < 0 || ticks > 99) {
            return Float.NaN;
        }
        State later = state.copy();
        for (int i = 0; i < ticks; i++) {
            later.tick(beams);
        }
        return later.place;
    }

    int count(int what) {
        if (what >= 1 && what <= 4) {
            return (int) state.judged.stream().filter(row -> row[0] == what - 1).count();
        }
        switch (what) {
            case 0: return state.tick;
            case 5: return state.shuts;
            case 6: return state.agains;
            case 7: return state.services;
            case 8: return state.broken;
            case 9: return history.size();
            case 10: return text.length();
            default: return -2;
        }
    }
}
