/** The sentences of "Texts", and of type, clearText and readBeams, each at its boundaries. */
public final class TextEdgesTest {
    /** Thirteen parts of 99 ticks and less, in 60 characters. */
    private static final String LONGEST = "7*99,0*99,6*99,0*99,5*99,0*99,4*99,0*99,3*99,0*99,2*99,0*9,1";

    public static void main(String[] args) {
        emptyAtFirst();
        atMostSixtyCharacters();
        anyCharacterIsTyped();
        clearTextOfEachLength();
        clearedTextIsForgotten();
        aheadOfTheFirstPart();
        aheadOfAnotherPart();
        behindBeams();
        behindAStar();
        behindOneDigit();
        behindTwoDigits();
        endsTooEarly();
        firstFaultOfSeveral();
        faultsAtTheEndOfSixtyCharacters();
        oneOrManyParts();
        numberOfTicks();
        oneTickIfItIsNotTold();
        digitsAreBeams();
        readsInOrder();
        longestText();
        textStays();
        fullAtTheLastTick();
        faultAheadOfFull();
        Checks.finish("TextEdgesTest");
    }

    // "There is a text of at most 60 characters, empty at first."
    private static void emptyAtFirst() {
        LiftBeams lift = new LiftBeams();
        Checks.due("the length", lift.count(10), 0);
        Checks.due("the empty text ends too early", lift.readBeams(), -100);
        Checks.due("clearText()", lift.clearText(), 0);
    }

    // type(): "Returns the length of the text then; FULL if it has 60 characters."
    private static void atMostSixtyCharacters() {
        LiftBeams lift = new LiftBeams();
        for (int length = 1; length <= 60; length++) {
            Checks.due("type()", lift.type('1'), length);
            Checks.due("the length", lift.count(10), length);
        }
        for (char character : new char[] {'1', ',', 0, (char) 65535}) {
            Checks.due("the character 61", lift.type(character), LiftBeams.FULL);
            Checks.due("the length", lift.count(10), 60);
        }
        lift.clearText();
        Checks.due("room again", lift.type('1'), 1);
    }

    // "character: any character"
    private static void anyCharacterIsTyped() {
        LiftBeams lift = null;
        for (int character = 0; character <= 65535; character++) {
            if (character % 60 == 0) {
                lift = new LiftBeams();
            }
            Checks.due("type() of " + character, lift.type((char) character), character % 60 + 1);
        }
    }

    // clearText(): "Returns the length that it had."
    private static void clearTextOfEachLength() {
        for (int length = 0; length <= 60; length++) {
            LiftBeams lift = Checks.withText("x".repeat(length));
            Checks.due("clearText()", lift.clearText(), length);
            Checks.due("the length", lift.count(10), 0);
            Checks.due("clearText() again", lift.clearText(), 0);
            Checks.due("type()", lift.type('x'), 1);
        }
    }

    private static void clearedTextIsForgotten() {
        LiftBeams lift = Checks.withText("3*25,7*4");
        Checks.due("readBeams()", lift.readBeams(), 29);
        lift.clearText();
        Checks.due("of nothing", lift.readBeams(), -100);
        lift.type('5');
        Checks.due("of one character", lift.readBeams(), 1);
        lift.type('*');
        Checks.due("of two characters", lift.readBeams(), -102);
        lift.type('9');
        Checks.due("of three characters", lift.readBeams(), 9);
        lift.type(',');
        Checks.due("of four characters", lift.readBeams(), -104);
        Checks.due("the tick", lift.count(0), 39);
    }

    // "a part is a digit from 0 to 7 (beams)"
    private static void aheadOfTheFirstPart() {
        everyCharacterBehind("", "01234567", "");
    }

    // "one or more parts with ',' between two"
    private static void aheadOfAnotherPart() {
        everyCharacterBehind("3,", "01234567", "");
        everyCharacterBehind("3*1,", "01234567", "");
        everyCharacterBehind("3*12,", "01234567", "");
    }

    private static void behindBeams() {
        everyCharacterBehind("3", "", "*,");
        everyCharacterBehind("0,7", "", "*,");
    }

    // "(one or two digits, the first one not 0; ..)"
    private static void behindAStar() {
        everyCharacterBehind("3*", "123456789", "");
        everyCharacterBehind("0,7*", "123456789", "");
    }

    private static void behindOneDigit() {
        everyCharacterBehind("3*1", "0123456789", ",");
        everyCharacterBehind("0,7*9", "0123456789", ",");
    }

    private static void behindTwoDigits() {
        everyCharacterBehind("3*10", "", ",");
        everyCharacterBehind("0,7*99", "", ",");
    }

    /** Types each of the 65536 characters behind a text: those that end it well, that go on with it, and faults. */
    private static void everyCharacterBehind(String text, String ends, String goesOn) {
        LiftBeams lift = null;
        for (int character = 0; character <= 65535; character++) {
            if (character % 50 == 0) {
                lift = new LiftBeams();
            }
            lift.clearText();
            Checks.typeText(lift, text);
            lift.type((char) character);
            int answer = lift.readBeams();
            String what = "readBeams() of " + text + " and " + character;
            if (ends.indexOf(character) >= 0) {
                Checks.due(what, answer > 0 ? 1 : answer, 1);
            } else if (goesOn.indexOf(character) >= 0) {
                Checks.due(what, answer, -100 - text.length() - 1);
            } else {
                Checks.due(what, answer, -100 - text.length());
            }
        }
    }

    // "or the length of the text if it ends too early (the empty text does)"
    private static void endsTooEarly() {
        String[] texts = {"", "0,", "7*", "7*1,", "7*12,", "0,1,", "0,1*", "0*10,1*", "0*10,1*9,"};
        for (String text : texts) {
            refused(text, text.length());
        }
        String[] sound = {"0", "7", "7*1", "7*12", "0,1", "0,1*1", "0*10,1*9"};
        for (String text : sound) {
            Checks.due("sound: " + text, Checks.withText(text).readBeams() > 0 ? 1 : 0, 1);
        }
    }

    // "The fault of the text is the index, from 0, of the first character that is not allowed at its place"
    private static void firstFaultOfSeveral() {
        refused("88", 0);
        refused("0*0*0", 2);
        refused("1x2x", 1);
        refused(",,,", 0);
        refused("0,8,9,", 2);
        refused("1*100,8", 4);
        refused("0*5,1*6,2*7,3*8,4*9 ,8", 19);
        refused("1,", 2);
        refused("1,,", 2);
        refused("1, ", 2);
    }

    private static void faultsAtTheEndOfSixtyCharacters() {
        String fifty = "0*10,0*10,0*10,0*10,0*10,0*10,0*10,0*10,0*10,0*10,";
        refused(fifty + "0*10,0*10,", 60);
        refused(fifty + "0*10,0,0*9", -1);
        refused(fifty + "0*10,0,0*0", 59);
        refused(fifty + "0*10,0,00*", 58);
        refused(fifty + "0*10,0*1,8", 59);
        refused(fifty + "0*10,0,0,*", 59);
        refused(fifty + "0*1,0*10,,", 59);
        refused(fifty + "0*1,0*1,0*", 60);
        refused(fifty + "0*10,0*100", 59);
        refused(fifty + "0*10,0*10x", 59);
        refused(fifty + "0*10,0*10", -1);
        refused(fifty.substring(0, 49), -1);
    }

    /** Reads a text with this fault, or with none, which is told as -1. */
    private static void refused(String text, int fault) {
        LiftBeams lift = Checks.withText(text);
        int answer = lift.readBeams();
        if (fault >= 0) {
            Checks.due("readBeams() of " + text, answer, -100 - fault);
        } else {
            Checks.due("readBeams() of " + text, answer > 0 ? 1 : answer, 1);
        }
        Checks.due("the tick", lift.count(0), fault >= 0 ? 0 : answer);
        Checks.due("the states", lift.count(9), fault >= 0 ? 0 : 1);
        Checks.due("the text stays", lift.count(10), text.length());
    }

    private static void oneOrManyParts() {
        StringBuilder text = new StringBuilder("7");
        for (int parts = 1; parts <= 30; parts++) {
            LiftBeams lift = Checks.withText(text.toString());
            Checks.due(parts + " parts", lift.readBeams(), parts);
            Checks.due("the length of the thing", lift.thing(0), parts);
            text.append(",7");
        }
    }

    // "perhaps '*' and a number of ticks (one or two digits, the first one not 0 ..)"
    private static void numberOfTicks() {
        for (int ticks = 1; ticks <= 99; ticks++) {
            LiftBeams lift = Checks.withText("4*" + ticks);
            Checks.due("readBeams() of " + ticks, lift.readBeams(), ticks);
            Checks.due("the high beam", lift.thing(3), ticks);
            Checks.due("the tick", lift.count(0), ticks);
        }
        refused("4*0", 2);
        refused("4*00", 2);
        refused("4*01", 2);
        refused("4*09", 2);
        refused("4*100", 4);
        refused("4*999", 4);
        refused("4*-1", 2);
        refused("4*+1", 2);
    }

    // "1 if it is not told"
    private static void oneTickIfItIsNotTold() {
        LiftBeams lift = Checks.withText("4*20,4,4*3,4");
        Checks.due("readBeams()", lift.readBeams(), 25);
        Checks.due("the high beam", lift.thing(3), 25);
    }

    private static void digitsAreBeams() {
        for (int beams = 0; beams <= 7; beams++) {
            LiftBeams read = Checks.withText(beams + "*2");
            LiftBeams passed = Checks.withText(beams + "*2");
            Checks.due("readBeams()", read.readBeams(), 2);
            passed.pass(beams, 2);
            Told.allOf(read).mustBe("read and passed " + beams, Told.allOf(passed));
        }
        refused("8", 0);
        refused("8*2", 0);
    }

    private static void readsInOrder() {
        LiftBeams read = Checks.withText("0*16,1,2*3,0*2,7*11,0*50,1*2,0*3,4,0*3,6*2,0");
        LiftBeams passed = Checks.withText("0*16,1,2*3,0*2,7*11,0*50,1*2,0*3,4,0*3,6*2,0");
        read.call();
        passed.call();
        Checks.due("readBeams()", read.readBeams(), 95);
        int[][] parts = {{0, 16}, {1, 1}, {2, 3}, {0, 2}, {7, 11}, {0, 50}, {1, 2}, {0, 3}, {4, 1}, {0, 3}, {6, 2}, {0, 1}};
        for (int[] part : parts) {
            passed.pass(part[0], part[1]);
        }
        Told.stateOf(read).mustBe("read and passed", Told.stateOf(passed));
        Checks.due("the door opened again", read.count(6), 1);
    }

    private static void longestText() {
        Checks.due("its length", LONGEST.length(), 60);
        LiftBeams lift = Checks.withText(LONGEST);
        Checks.due("readBeams()", lift.readBeams(), 11 * 99 + 9 + 1);
        Checks.due("the tick", lift.count(0), 1099);
        Checks.due("ticks with broken beams", lift.count(8), 6 * 99 + 1);
    }

    // "Lets the ticks of the text, which stays, pass. This is one act."
    private static void textStays() {
        LiftBeams lift = Checks.withText("5*3,0*4");
        for (int time = 1; time <= 6; time++) {
            Checks.due("readBeams()", lift.readBeams(), 7);
            Checks.due("the tick", lift.count(0), 7 * time);
            Checks.due("the text", lift.count(10), 7);
            Checks.due("the states", lift.count(9), Math.min(time, 4));
        }
        Checks.due("undo() takes one reading back", lift.undo(), 3);
        Checks.due("the tick", lift.count(0), 35);
        Checks.due("the text", lift.count(10), 7);
    }

    // readBeams(): "FULL if the tick would be more than 99999"
    private static void fullAtTheLastTick() {
        for (int left = 0; left <= 12; left++) {
            LiftBeams lift = Checks.atTick(99999 - left);
            Checks.typeText(lift, "3*4,0,7*5");
            boolean fits = left >= 10;
            Checks.due("with " + left + " left", lift.readBeams(), fits ? 10 : LiftBeams.FULL);
            Checks.due("the tick", lift.count(0), fits ? 99999 - left + 10 : 99999 - left);
        }
        for (int left = 1098; left <= 1100; left++) {
            LiftBeams lift = Checks.atTick(99999 - left);
            Checks.typeText(lift, LONGEST);
            Checks.due("with " + left + " left", lift.readBeams(), left < 1099 ? LiftBeams.FULL : 1099);
        }
    }

    private static void faultAheadOfFull() {
        LiftBeams lift = Checks.atTick(99999);
        Checks.due("the empty text", lift.readBeams(), -100);
        lift.type('5');
        Checks.due("a sound text", lift.readBeams(), LiftBeams.FULL);
        lift.type('*');
        Checks.due("one that ends too early", lift.readBeams(), -102);
        lift.type('0');
        Checks.due("one with a fault", lift.readBeams(), -102);
        Checks.due("the tick", lift.count(0), 99999);
    }
}
