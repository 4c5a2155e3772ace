import java.io.IOException;
import java.lang.reflect.Method;
import java.lang.reflect.Modifier;
import java.nio.file.Files;
import java.nio.file.Path;
import java.util.ArrayList;
import java.util.List;
import java.util.Set;
import java.util.TreeSet;
import java.util.regex.Matcher;
import java.util.regex.Pattern;
import java.util.stream.Collectors;
import java.util.stream.Stream;

/**
 * Prints the source of ReadmeTest, which is made of README.md anew each time, so that no row of that page can go
 * unasked: its Java blocks as they stand, in their order, each row held against the answer that is told behind it.
 * Ends with 1 if the page has a row without an answer, leaves out a call of the face, or does not name the tests.
 */
public final class ReadmeRows {
    private static final Pattern ROW = Pattern.compile("(.+);\\s*// ([^\\s:]+): \\S.*", Pattern.DOTALL);
    private static final Pattern CALL = Pattern.compile("\\bx\\.(\\w+)\\(");
    private static final Pattern NAMED = Pattern.compile("^\\| `(\\w+)` \\|.*", Pattern.MULTILINE);
    private static final Set<String> OPENINGS = Set.of("LifeDrawer x = new LifeDrawer();", "x = new LifeDrawer();");
    private static final String MADE_OF_THIS = "ReadmeTest";

    private final StringBuilder helpers = new StringBuilder();
    private final StringBuilder asked = new StringBuilder();
    private final Set<String> shown = new TreeSet<>();
    private final List<String> faults = new ArrayList<>();

    public static void main(String[] args) throws IOException {
        ReadmeRows rows = new ReadmeRows();
        String page = Files.readString(Path.of("README.md"));
        rows.read(page.lines().toList());
        rows.faceShown();
        rows.testsNamed(page);
        rows.faults.forEach(fault -> System.err.println("README.md: " + fault));
        if (!rows.faults.isEmpty()) System.exit(1);
        System.out.println(rows.source());
    }

    private void read(List<String> lines) {
        List<String> block = null;
        for (String line : lines) {
            if (block == null && line.equals("```java")) {
                block = new ArrayList<>();
            } else if (block != null && line.equals("```")) {
                take(block);
                block = null;
            } else if (block != null) {
                block.add(line);
            } else if (CALL.matcher(line).find()) {
                faults.add("a call outside of the Java blocks: " + line);
            }
        }
        if (block != null) faults.add("a block that does not end");
    }

    private void take(List<String> block) {
        String whole = String.join("\n", block) + "\n";
        if (whole.startsWith("static ")) {
            helpers.append(whole);
        } else if (whole.startsWith("E.edge(")) {
            asked.append(whole);
        } else {
            takeRows(block);
        }
    }

    /** A row may go over several lines; the last of them has the answer. */
    private void takeRows(List<String> block) {
        String row = "";
        for (String line : block) {
            if (row.isEmpty() && (line.isBlank() || OPENINGS.contains(line))) {
                asked.append(line).append('\n');
                continue;
            }
            row = row.isEmpty() ? line : row + "\n" + line;
            Matcher whole = ROW.matcher(row);
            if (whole.matches()) {
                takeRow(whole.group(1), whole.group(2));
                row = "";
            }
        }
        if (!row.isEmpty()) faults.add("a row without an answer: " + row);
    }

    private void takeRow(String call, String answer) {
        Matcher calls = CALL.matcher(call);
        while (calls.find()) shown.add(calls.group(1));
        String what = quoted(call.replaceAll("\\s+", " "));
        String want = quoted(answer);
        asked.append("try { CHECK.said(").append(what).append(", String.valueOf(").append(call).append("), ").append(want)
            .append("); } catch (RuntimeException e) { CHECK.said(").append(what).append(", e.getClass().getSimpleName(), ")
            .append(want).append("); }\n");
    }

    private static String quoted(String text) {
        return '"' + text.replace("\\", "\\\\").replace("\"", "\\\"") + '"';
    }

    private void faceShown() {
        for (Method m : LifeDrawer.class.getDeclaredMethods()) {
            boolean face = Modifier.isPublic(m.getModifiers());
            if (face && !shown.contains(m.getName())) faults.add("shows no row of " + m.getName());
        }
    }

    private void testsNamed(String page) throws IOException {
        Set<String> there = new TreeSet<>(Set.of(MADE_OF_THIS));
        try (Stream<Path> files = Files.list(Path.of("src", "test", "java"))) {
            files.map(file -> file.getFileName().toString()).filter(name -> name.endsWith("Test.java"))
                .forEach(name -> there.add(name.replace(".java", "")));
        }
        Set<String> named = NAMED.matcher(page).results().map(found -> found.group(1)).filter(name -> name.endsWith("Test"))
            .collect(Collectors.toCollection(TreeSet::new));
        if (!named.equals(there)) faults.add("names the tests " + named + ", but there are " + there);
    }

    private String source() {
        return "public final class " + MADE_OF_THIS + " {\n"
            + "private static final Check CHECK = new Check();\n"
            + helpers
            + "public static void main(String[] args) {\n"
            + "CHECK.part(\"README.md\");\n"
            + "Edges E = new Edges();\n"
            + asked
            + "CHECK.due(\"answers that are not as due in its edges\", E.wrongAnswers(), 0);\n"
            + "CHECK.close(\"" + MADE_OF_THIS + "\");\n"
            + "}\n"
            + "}";
    }
}
