import java.io.IOException;
import java.nio.file.Files;
import java.nio.file.Path;
import java.util.ArrayList;
import java.util.List;
import java.util.regex.Matcher;
import java.util.regex.Pattern;

/**
 * Makes a test of the Java example in a README: the source of a class ReadmeExample, on standard output.
 *
 * It has the example twice: as it stands, so that what a reader copies is what is compiled, and with each
 * call held against the answer that stands behind it. An example that tells too little is refused.
 */
public final class ExampleMaker {
    private static final Pattern CALL = Pattern.compile("(x\\.\\w+\\([^;]*\\)); +// (-?\\d+|NOTHING)(: .*)?");
    private static final Pattern NEW_OBJECT = Pattern.compile("JavaBridge x = new JavaBridge\\(\\);");

    private ExampleMaker() {
    }

    public static void main(String[] args) throws IOException {
        if (args.length != 1) {
            refuse("it takes the README's path");
        }
        List<String> example = exampleOf(Files.readAllLines(Path.of(args[0])));
        if (example.isEmpty()) {
            refuse("there is no java example in " + args[0]);
        }
        List<String> checked = new ArrayList<>();
        for (String line : example) {
            checked.add(checkOf(line));
        }
        print(example, checked);
    }

    /** The lines of all java blocks, in their order: they are one example. */
    static List<String> exampleOf(List<String> readme) {
        List<String> found = new ArrayList<>();
        boolean inside = false;
        for (String line : readme) {
            if (line.startsWith("```")) {
                inside = !inside && line.equals("```java");
            } else if (inside && !line.isBlank()) {
                found.add(line);
            }
        }
        return found;
    }

    private static String checkOf(String line) {
        if (NEW_OBJECT.matcher(line).matches()) {
            return line;
        }
        Matcher call = CALL.matcher(line);
        if (!call.matches()) {
            refuse("this line tells no answer: " + line);
        }
        String answer = call.group(2).equals("NOTHING") ? "JavaBridge.NOTHING" : call.group(2) + "L";
        return "Checks.due(\"README.md: " + call.group(1) + "\", " + call.group(1) + ", " + answer + ");";
    }

    private static void print(List<String> example, List<String> checked) {
        StringBuilder out = new StringBuilder("public final class ReadmeExample {\n");
        out.append("    private static void asItStands() {\n");
        append(out, example);
        out.append("    }\n\n    private static void answers() {\n");
        append(out, checked);
        out.append("    }\n\n    public static void main(String[] args) {\n");
        out.append("        asItStands();\n        answers();\n        Checks.finish(\"ReadmeExample\");\n    }\n}\n");
        System.out.print(out);
    }

    private static void append(StringBuilder out, List<String> lines) {
        for (String line : lines) {
            out.append("        ").append(line).append('\n');
        }
    }

    private static void refuse(String why) {
        System.err.println("ExampleMaker: " + why);
        System.exit(1);
    }
}
