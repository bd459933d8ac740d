import java.io.IOException;
import java.nio.file.Files;
import java.nio.file.Path;
import java.util.ArrayList;
import java.util.List;
import java.util.regex.Matcher;
import java.util.regex.Pattern;

/** Makes a program of README.md's Java examples, which compares what the lines answer with what README.md says. */
public final class ReadmeExamples {
    static final String NAME = "ReadmeProgram";

    private static final String MARK = "// answers ";
    private static final Pattern TOLD =
        Pattern.compile("(\\s*)(\\S.*);\\s*// answers (true|false|-?[0-9]+|REFUSED|FULL)(?:[:,].*)?");
    private static final Pattern DECLARED = Pattern.compile("(?:int|boolean) (\\w+) = .+");

    private ReadmeExamples() {
    }

    /** The arguments: README.md, and the directory for the program. */
    public static void main(String[] args) throws IOException {
        List<String> readme = Files.readAllLines(Path.of(args[0]));
        Files.write(Path.of(args[1], NAME + ".java"), program(readme));
    }

    /** Each example becomes a method, so that it must stand for itself. */
    static List<String> program(List<String> readme) {
        List<String> lines = new ArrayList<>();
        lines.add("public final class " + NAME + " {");
        int examples = addExamples(readme, lines);
        lines.add("    public static void main(String[] args) {");
        for (int k = 1; k <= examples; k++) {
            lines.add("        example" + k + "();");
        }
        lines.add("        Due.end();");
        lines.add("    }");
        lines.add("}");
        return lines;
    }

    private static int addExamples(List<String> readme, List<String> lines) {
        int examples = 0;
        boolean inside = false;
        for (int k = 0; k < readme.size(); k++) {
            String line = readme.get(k);
            if (inside && line.equals("```")) {
                inside = false;
                lines.add("    }");
            } else if (inside) {
                addLine(line, "README.md line " + (k + 1), lines);
            } else if (line.equals("```java")) {
                inside = true;
                examples++;
                lines.add("    private static void example" + examples + "() {");
            }
        }
        if (inside) {
            throw new IllegalArgumentException("README.md ends within an example");
        }
        return examples;
    }

    /** A line that the pattern does not know, but that tells of an answer, must not go unlooked at. */
    private static void addLine(String line, String place, List<String> lines) {
        Matcher told = TOLD.matcher(line);
        if (!told.matches()) {
            if (line.contains(MARK.strip())) {
                throw new IllegalArgumentException(place + " is not in the form 'call; " + MARK + "...': " + line);
            }
            lines.add(line);
            return;
        }
        String code = told.group(2);
        Matcher declared = DECLARED.matcher(code);
        String looked = code;
        if (declared.matches()) {
            lines.add(told.group(1) + code + ";");
            looked = declared.group(1);
        }
        String name = (place + ", " + code).replace("\\", "\\\\").replace("\"", "\\\"");
        lines.add(told.group(1) + "Due.is(\"" + name + "\", " + looked + ", " + inJava(told.group(3)) + ");");
    }

    private static String inJava(String answer) {
        return answer.equals("REFUSED") || answer.equals("FULL") ? "TokenBus." + answer : answer;
    }
}
