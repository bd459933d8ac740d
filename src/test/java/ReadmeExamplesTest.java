import java.util.List;

/** That every line of README.md that tells of an answer is looked at when its examples are run. */
public final class ReadmeExamplesTest {
    public static void main(String[] args) {
        aCallIsCompared();
        aVariableIsCompared();
        constantsAreTheClassesOwn();
        otherLinesStayAsTheyAre();
        onlyJavaBlocksAreTaken();
        whatCannotBeReadIsRefused();
        Due.end();
    }

    private static void aCallIsCompared() {
        becomes("bus.holder();", "bus.holder();");
        becomes("bus.holder();   // answers -1", "Due.is(\"README.md line 2, bus.holder()\", bus.holder(), -1);");
        becomes("  bus.holder(); // answers 3: so it is", "  Due.is(\"README.md line 2, bus.holder()\", bus.holder(), 3);");
        becomes("bus.set(0, 1); // answers true, as said",
            "Due.is(\"README.md line 2, bus.set(0, 1)\", bus.set(0, 1), true);");
    }

    private static void aVariableIsCompared() {
        becomes("int r = bus.request(0, 1, 1, 0); // answers 0",
            "int r = bus.request(0, 1, 1, 0);", "Due.is(\"README.md line 2, int r = bus.request(0, 1, 1, 0)\", r, 0);");
        becomes("boolean on = bus.power(0, true); // answers true",
            "boolean on = bus.power(0, true);", "Due.is(\"README.md line 2, boolean on = bus.power(0, true)\", on, true);");
    }

    private static void constantsAreTheClassesOwn() {
        becomes("bus.state(0); // answers REFUSED",
            "Due.is(\"README.md line 2, bus.state(0)\", bus.state(0), TokenBus.REFUSED);");
        becomes("bus.state(0); // answers FULL: no",
            "Due.is(\"README.md line 2, bus.state(0)\", bus.state(0), TokenBus.FULL);");
    }

    private static void otherLinesStayAsTheyAre() {
        becomes("for (int k = 0; k < 4; k++) {", "for (int k = 0; k < 4; k++) {");
        becomes("    bus.step(); // a silent step", "    bus.step(); // a silent step");
        becomes("", "");
    }

    private static void onlyJavaBlocksAreTaken() {
        List<String> readme = List.of("bus.holder(); // answers 1", "```sh", ".ci/run", "```", "```java", "bus.step();", "```",
            "text", "```java", "bus.phase();", "```", "text");
        List<String> due = List.of(
            "public final class ReadmeProgram {",
            "    private static void example1() {", "bus.step();", "    }",
            "    private static void example2() {", "bus.phase();", "    }",
            "    public static void main(String[] args) {",
            "        example1();", "        example2();", "        Due.end();",
            "    }",
            "}");
        List<String> got = ReadmeExamples.program(readme);
        Due.is("the program of two examples: " + got, got.equals(due), true);
    }

    private static void whatCannotBeReadIsRefused() {
        isRefused("```java", "bus.holder(); // answers", "```");
        isRefused("```java", "bus.holder(); // answers one", "```");
        isRefused("```java", "bus.holder(); // answers 1 or 2", "```");
        isRefused("```java", "bus.holder(); //answers 1 // answers 1x", "```");
        isRefused("```java", "bus.holder() // answers 1", "```");
        isRefused("```java", "bus.holder();");
    }

    private static void becomes(String line, String... due) {
        List<String> program = ReadmeExamples.program(List.of("```java", line, "```"));
        List<String> got = program.subList(2, 2 + due.length);
        Due.is("made of '" + line + "': " + got, got.equals(List.of(due)), true);
        Due.is("the lines made of '" + line + "'", program.size(), 8 + due.length);
    }

    private static void isRefused(String... readme) {
        boolean refused = false;
        try {
            ReadmeExamples.program(List.of(readme));
        } catch (IllegalArgumentException e) {
            refused = true;
        }
        Due.is("refused: " + readme[1], refused, true);
    }
}
