import java.io.IOException;
import java.lang.reflect.Method;
import java.lang.reflect.Modifier;
import java.nio.file.Files;
import java.nio.file.Path;
import java.util.List;
import java.util.Map;
import java.util.Set;
import java.util.TreeMap;
import java.util.TreeSet;
import java.util.regex.Matcher;
import java.util.regex.Pattern;

/**
 * Makes the calls that README.md shows into a test, and prints it.
 * What is tested is read from README.md itself, so that the two can't come to differ.
 */
public final class ReadmeProgram {
    private static final Pattern NEW_OBJECT = Pattern.compile("LiftBeams \\w+ = new LiftBeams\\(\\);");
    // A call, and behind it its answer, and perhaps ": " and words.
    private static final Pattern CALL = Pattern.compile("(\\w+\\.(\\w+)\\(.*\\));\\s+// ([^\\s:]+)(: .+)?");
    private static final Pattern WHOLE = Pattern.compile("-?\\d+");
    private static final Pattern CONSTANT = Pattern.compile("UNKNOWN|BAD_VALUE|FULL|NOT_POSSIBLE|NONE");
    private static final Pattern FLOAT = Pattern.compile("-?\\d+\\.\\d+f");

    private final Map<String, Class<?>> answerTypes = new TreeMap<>();
    private final Set<String> notShown = new TreeSet<>();
    private final StringBuilder source = new StringBuilder();
    private int blocks = 0;
    private int lineNumber = 0;

    private ReadmeProgram() {
        for (Method method : LiftBeams.class.getDeclaredMethods()) {
            if (Modifier.isPublic(method.getModifiers())) {
                answerTypes.put(method.getName(), method.getReturnType());
            }
        }
        notShown.addAll(answerTypes.keySet());
    }

    public static void main(String[] args) throws IOException {
        System.out.print(sourceOf(Files.readAllLines(Path.of(args[0]))));
    }

    /** The test that the lines of README.md tell; refuses a call without an answer, and calls that are not shown. */
    static String sourceOf(List<String> lines) {
        return new ReadmeProgram().write(lines);
    }

    private String write(List<String> lines) {
        source.append("public final class ReadmeCallsTest {\n");
        boolean inBlock = false;
        for (String line : lines) {
            lineNumber++;
            if (!inBlock && line.equals("```java")) {
                inBlock = true;
                blocks++;
                source.append("    private static void block").append(blocks).append("() {\n");
            } else if (inBlock && line.equals("```")) {
                inBlock = false;
                source.append("    }\n\n");
            } else if (inBlock) {
                writeLine(line.strip());
            }
        }
        require(!inBlock, "a block has no end");
        require(notShown.isEmpty(), "these calls are not shown: " + notShown);
        writeMain();
        return source.append("}\n").toString();
    }

    private void writeLine(String line) {
        Matcher call = CALL.matcher(line);
        if (NEW_OBJECT.matcher(line).matches()) {
            source.append("        ").append(line).append('\n');
        } else if (call.matches()) {
            writeCall(call.group(1), call.group(2), call.group(3));
        } else {
            require(line.isEmpty(), "neither a new object nor a call with its answer: " + line);
        }
    }

    private void writeCall(String call, String name, String answer) {
        require(answerTypes.containsKey(name), "there is no such call: " + name);
        notShown.remove(name);
        String what = "\"README.md, line " + lineNumber + ": " + call.replace("\\", "\\\\").replace("\"", "\\\"") + "\"";
        source.append("        ");
        if (answerTypes.get(name) == int.class) {
            boolean constant = CONSTANT.matcher(answer).matches();
            require(constant || WHOLE.matcher(answer).matches(), "no whole number: " + answer);
            source.append("Checks.due(").append(what).append(", ").append(call).append(", ")
                .append(constant ? "LiftBeams." : "").append(answer).append(");\n");
        } else if (answer.equals("NaN")) {
            source.append("Checks.dueNaN(").append(what).append(", ").append(call).append(");\n");
        } else {
            require(FLOAT.matcher(answer).matches(), "no float: " + answer);
            source.append("Checks.dueFloat(").append(what).append(", ").append(call).append(", ")
                .append(answer).append(");\n");
        }
    }

    private void writeMain() {
        source.append("    public static void main(String[] args) {\n");
        for (int block = 1; block <= blocks; block++) {
            source.append("        block").append(block).append("();\n");
        }
        source.append("        Checks.finish(\"ReadmeCallsTest\");\n    }\n");
    }

    private void require(boolean holds, String otherwise) {
        if (!holds) {
            throw new IllegalArgumentException("README.md, line " + lineNumber + ": " + otherwise);
        }
    }
}
