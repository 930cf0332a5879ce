/** All promises: long runs of calls on a LiftBeams and on the Model, which must answer alike. */
public final class ModelTest {
    private static final int RUNS = 2000;
    private static final int MOST_CALLS = 512;
    private static final int CALLS_OF_TELL_ALL = 13 * 12 + 2;
    private static final int MOST_CALLS_OF_STEP = 8;

    private long seed;
    private final LiftBeams lift = new LiftBeams();
    private final Model model = new Model();
    private final int run;
    private final StringBuilder calls = new StringBuilder();
    private int made;
    private final boolean quick;

    // How often what is rare was met, so that the runs can't miss it unseen.
    private static int services;
    private static int leavesTakenBack;
    private static int slow;
    private static int fullTicks;
    private static int textsRead;

    private ModelTest(int run) {
        this.run = run;
        seed = run * 7919L + 17;
        quick = run % 3 != 0;
    }

    public static void main(String[] args) {
        for (int run = 0; run < RUNS; run++) {
            new ModelTest(run).go();
        }
        Checks.due("runs met calls for service", services > 100 ? 1 : 0, 1);
        Checks.due("runs met leaves that take back", leavesTakenBack > 100 ? 1 : 0, 1);
        Checks.due("runs met slow closing", slow > 100 ? 1 : 0, 1);
        Checks.due("runs met the last tick", fullTicks > 5 ? 1 : 0, 1);
        Checks.due("runs met sound texts", textsRead > 100 ? 1 : 0, 1);
        Checks.finish("ModelTest");
    }

    private void go() {
        if (run % 20 == 0) {
            passAlmostAll();
        }
        if (quick) {
            setQuick();
        }
        // The answers of an object are promised for 512 calls, and the last of them are kept for tellAll().
        while (made < MOST_CALLS - CALLS_OF_TELL_ALL - MOST_CALLS_OF_STEP) {
            int before = model.door(1);
            int leaves = model.count(1);
            step();
            services += model.door(2);
            slow += model.speed(3) == model.speed(2) ? 1 : 0;
            leavesTakenBack += model.door(1) < before && model.count(1) > leaves && model.door(0) != 0 ? 1 : 0;
        }
        tellAll();
        Checks.due("calls of run " + run + " up to 512", made <= MOST_CALLS ? 1 : 0, 1);
    }

    /** A number from 0 up to, but without, the bound; the same ones in every run of the test. */
    private int next(int bound) {
        seed = seed * 6364136223846793005L + 1442695040888963407L;
        return (int) ((seed >>> 33) % bound);
    }

    private void passAlmostAll() {
        for (char character : "0*99,0*99,0*99,0*99,0*99,0*99,0*99,0*99,0*99,0*99,0*99,0*99".toCharArray()) {
            same("type", lift.type(character), model.type(character));
        }
        for (int time = 0; time < 84; time++) {
            same("readBeams()", lift.readBeams(), model.readBeams());
        }
        same("clearText()", lift.clearText(), model.clearText());
    }

    private void setQuick() {
        setNumber(0, 1 + next(3));
        setNumber(1, next(2));
        setNumber(2, next(3));
        setNumber(3, next(2));
        setNumber(4, 1 + next(4));
        setSpeed(0, Float.floatToRawIntBits(20.0f + next(31)));
    }

    private void step() {
        int choice = next(100);
        if (choice < 45) {
            pass(next(3) == 0 ? next(8) : 0, 1 + next(next(4) == 0 ? 30 : 4));
        } else if (choice < 55) {
            same("call()", lift.call(), model.call());
        } else if (choice < 65) {
            set();
        } else if (choice < 70) {
            text();
        } else if (choice < 76) {
            history();
        } else if (choice < 80) {
            same("serve()", lift.serve(), model.serve());
        } else if (choice < 82) {
            pass(next(11) - 1, next(103) - 1);
        } else {
            tell();
        }
    }

    private void pass(int beams, int ticks) {
        int answer = lift.pass(beams, ticks);
        fullTicks += answer == LiftBeams.FULL ? 1 : 0;
        same("pass(" + beams + ", " + ticks + ")", answer, model.pass(beams, ticks));
    }

    private void set() {
        int choice = next(6);
        if (choice == 0) {
            setSpeed(next(5) - 1, oddBits());
        } else if (choice == 1) {
            setSpeed(next(3), Float.floatToRawIntBits(0.5f + next(5000) / 100.0f));
        } else if (choice == 2) {
            setWeight(next(6) - 1, oddBits());
        } else if (choice == 3) {
            setWeight(next(4), Float.floatToRawIntBits(next(41) / 10.0f));
        } else if (choice == 4) {
            setNumber(next(5), next(6));
        } else {
            setNumber(next(7) - 1, next(53) - 1);
        }
    }

    private int oddBits() {
        int[] odd = {0, 1, -1, Integer.MIN_VALUE, 0x3F000000, 0x3EFFFFFF, 0x42480000, 0x42480001, 0x40800000,
            0x40800001, 0x7F800000, 0xFF800000, 0x7FC00000, 0x7F7FFFFF, 0x007FFFFF, 0x00800000};
        int choice = next(odd.length + 4);
        return choice < odd.length ? odd[choice] : next(1 << 30) + next(1 << 30);
    }

    private void setSpeed(int which, int bits) {
        same("setSpeed(" + which + ", " + bits + ")", lift.setSpeed(which, bits), model.setSpeed(which, bits));
    }

    private void setWeight(int kind, int bits) {
        same("setWeight(" + kind + ", " + bits + ")", lift.setWeight(kind, bits), model.setWeight(kind, bits));
    }

    private void setNumber(int which, int value) {
        same("setNumber(" + which + ", " + value + ")", lift.setNumber(which, value), model.setNumber(which, value));
    }

    private void text() {
        if (next(6) == 0) {
            same("clearText()", lift.clearText(), model.clearText());
        }
        String signs = next(5) == 0 ? "0123456789*,, x" : "012,345*67";
        for (int typed = next(6); typed > 0; typed--) {
            char character = signs.charAt(next(signs.length()));
            same("type(" + character + ")", lift.type(character), model.type(character));
        }
        int answer = lift.readBeams();
        textsRead += answer > 0 ? 1 : 0;
        same("readBeams()", answer, model.readBeams());
        if (answer < -99) {
            same("clearText()", lift.clearText(), model.clearText());
        }
    }

    private void history() {
        int choice = next(4);
        if (choice == 0) {
            same("keep()", lift.keep(), model.keep());
        } else if (choice == 1) {
            same("restore()", lift.restore(), model.restore());
        } else {
            same("undo()", lift.undo(), model.undo());
        }
    }

    private void tell() {
        int choice = next(9);
        int what = next(14) - 1;
        switch (choice) {
            case 0: sameFloat("place()", lift.place(), model.place()); break;
            case 1: sameFloat("score(" + what + ")", lift.score(what), model.score(what)); break;
            case 2: same("door(" + what + ")", lift.door(what), model.door(what)); break;
            case 3: same("thing(" + what + ")", lift.thing(what), model.thing(what)); break;
            case 4: same("shutsIn()", lift.shutsIn(), model.shutsIn()); break;
            case 5: placeIn(next(10) - 1, next(102) - 1); break;
            case 6: same("count(" + what + ")", lift.count(what), model.count(what)); break;
            case 7: judged(what, next(7) - 1); break;
            default: sameFloat("speed(" + what + ")", lift.speed(what), model.speed(what)); break;
        }
    }

    private void placeIn(int beams, int ticks) {
        sameFloat("placeIn(" + beams + ", " + ticks + ")", lift.placeIn(beams, ticks), model.placeIn(beams, ticks));
    }

    private void judged(int back, int what) {
        same("judged(" + back + ", " + what + ")", lift.judged(back, what), model.judged(back, what));
    }

    private void tellAll() {
        for (int what = -1; what < 12; what++) {
            same("count(" + what + ")", lift.count(what), model.count(what));
            same("door(" + what + ")", lift.door(what), model.door(what));
            same("thing(" + what + ")", lift.thing(what), model.thing(what));
            same("number(" + what + ")", lift.number(what), model.number(what));
            sameFloat("speed(" + what + ")", lift.speed(what), model.speed(what));
            sameFloat("weight(" + what + ")", lift.weight(what), model.weight(what));
            sameFloat("score(" + what + ")", lift.score(what), model.score(what));
            for (int part = 0; part < 5; part++) {
                judged(what, part);
            }
        }
        sameFloat("place()", lift.place(), model.place());
        same("shutsIn()", lift.shutsIn(), model.shutsIn());
    }

    private void same(String call, int got, int want) {
        made++;
        calls.append(' ').append(call);
        Checks.due(got == want ? call : "run " + run + ":" + calls, got, want);
    }

    private void sameFloat(String call, float got, float want) {
        made++;
        calls.append(' ').append(call);
        Checks.dueFloat(Float.compare(got, want) == 0 ? call : "run " + run + ":" + calls, got, want);
    }
}
