import java.util.ArrayList;
import java.util.List;

/** What ReadmeProgram makes of a page, and the pages that it refuses. */
public final class ReadmeProgramTest {
    private static final List<String> WHOLE_PAGE = List.of(
        "# A page", "", "Words, also with lift.call(); in them.", "", "    lift.call();", "", "```java",
        "LiftBeams lift = new LiftBeams();", "lift.setSpeed(0, Float.floatToRawIntBits(12.5f));  // 1: it is set",
        "lift.setWeight(0, 0);     // 1", "lift.setNumber(0, 8);     // 5: the one before", "lift.call();     // 0",
        "lift.serve();     // NOT_POSSIBLE: not called for", "", "lift.pass(0, 1);     // 1", "lift.readBeams();     // -100",
        "lift.type('*');     // 1", "lift.type('\"');     // 2", "lift.clearText();     // 2", "```", "Words.", "```java",
        "LiftBeams other = new LiftBeams();", "other.undo();     // NONE", "other.keep();     // 0",
        "other.restore();     // 0", "other.place();     // 0.0f: shut", "other.speed(4);     // NaN: none",
        "other.weight(0);     // 1.0f", "other.score(0);     // NaN", "other.number(0);     // 5", "other.door(0);     // 0",
        "other.thing(0);     // NONE", "other.judged(0, 0);     // NONE", "other.shutsIn();     // 0",
        "other.placeIn(0, 0);     // 0.0f", "other.count(0);     // 0", "```");

    public static void main(String[] args) {
        wholePage();
        callsLeftOut();
        linesRefused();
        blocksWithoutEnd();
        Checks.finish("ReadmeProgramTest");
    }

    private static void wholePage() {
        String source = ReadmeProgram.sourceOf(WHOLE_PAGE);
        contains(source, "    private static void block1() {\n        LiftBeams lift = new LiftBeams();\n");
        contains(source, "Checks.due(\"README.md, line 9: lift.setSpeed(0, Float.floatToRawIntBits(12.5f))\", "
            + "lift.setSpeed(0, Float.floatToRawIntBits(12.5f)), 1);\n");
        contains(source, "lift.serve(), LiftBeams.NOT_POSSIBLE);\n");
        contains(source, "lift.readBeams(), -100);\n");
        contains(source, "Checks.due(\"README.md, line 18: lift.type('\\\"')\", lift.type('\"'), 2);\n");
        contains(source, "    private static void block2() {\n        LiftBeams other = new LiftBeams();\n");
        contains(source, "Checks.dueFloat(\"README.md, line 27: other.place()\", other.place(), 0.0f);\n");
        contains(source, "Checks.dueNaN(\"README.md, line 28: other.speed(4)\", other.speed(4));\n");
        contains(source, "        block1();\n        block2();\n        Checks.finish(");
        int calls = source.split("Checks.due").length - 1;
        Checks.due("the calls that are compared", calls, 24);
    }

    // Each call of the class stands on the page once, but for type(), which stands there twice.
    private static void callsLeftOut() {
        for (int i = 0; i < WHOLE_PAGE.size(); i++) {
            boolean call = WHOLE_PAGE.get(i).contains("//");
            boolean once = call && !WHOLE_PAGE.get(i).contains("type(");
            if (call) {
                List<String> page = new ArrayList<>(WHOLE_PAGE);
                page.remove(i);
                Checks.due("without " + WHOLE_PAGE.get(i), refuses(page) ? 1 : 0, once ? 1 : 0);
            }
        }
        Checks.due("an empty page", refuses(List.of()) ? 1 : 0, 1);
    }

    private static void linesRefused() {
        refusesLine("lift.call();", "a call without an answer");
        refusesLine("lift.call();   //", "a call with an empty answer");
        refusesLine("lift.call();   // it is opening now", "words ahead of the answer");
        refusesLine("lift.call();   // 0 it is opening now", "words without a colon ahead of them");
        refusesLine("lift.call();   // 0.0f", "a float for a whole number");
        refusesLine("lift.call();   // NaN", "a NaN for a whole number");
        refusesLine("lift.call();   // NOTHING", "no constant");
        refusesLine("lift.place();   // 0", "a whole number for a float");
        refusesLine("lift.place();   // NONE", "a constant for a float");
        refusesLine("lift.place();   // 0.0", "a double for a float");
        refusesLine("lift.ring();   // 0", "a call that is not there");
        refusesLine("int before = lift.call();", "another statement");
        refusesLine("// words", "words alone");
        Checks.due("an empty line", refuses(withLine("")) ? 1 : 0, 0);
        Checks.due("a good line", refuses(withLine("lift.call();   // 0")) ? 1 : 0, 0);
    }

    private static void blocksWithoutEnd() {
        Checks.due("no end", refuses(WHOLE_PAGE.subList(0, WHOLE_PAGE.size() - 1)) ? 1 : 0, 1);
        Checks.due("a beginning in a block", refuses(withLine("```java")) ? 1 : 0, 1);
    }

    private static void refusesLine(String line, String what) {
        Checks.due("refuses " + what, refuses(withLine(line)) ? 1 : 0, 1);
    }

    /** The whole page, with this line ahead of the end of its last block. */
    private static List<String> withLine(String line) {
        List<String> page = new ArrayList<>(WHOLE_PAGE);
        page.add(page.size() - 1, line);
        return page;
    }

    private static boolean refuses(List<String> page) {
        try {
            ReadmeProgram.sourceOf(page);
            return false;
        } catch (IllegalArgumentException refused) {
            return true;
        }
    }

    private static void contains(String source, String part) {
        Checks.due("the test holds " + part, source.contains(part) ? 1 : 0, 1);
    }
}
