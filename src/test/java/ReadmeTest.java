import java.io.ByteArrayOutputStream;
import java.io.IOException;
import java.io.PrintStream;
import java.lang.reflect.Method;
import java.lang.reflect.Modifier;
import java.nio.charset.StandardCharsets;
import java.nio.file.Files;
import java.nio.file.Path;
import java.util.ArrayList;
import java.util.List;
import java.util.Set;
import java.util.TreeSet;
import java.util.regex.Matcher;
import java.util.regex.Pattern;
import java.util.stream.Stream;

/** What README.md says of the calls, the limits, the example and the tests is so. */
public final class ReadmeTest {
    private static final Path TESTS = Path.of("src", "test", "java");
    private static final Path EXAMPLE = TESTS.resolve("Example.java");
    private static final Pattern CALL = Pattern.compile("`(\\w+ \\w+)\\((.*)\\)`");
    private static final Pattern EXCEPTION = Pattern.compile("`(\\w+Exception)`");
    private static final Pattern PRINTED = Pattern.compile("System\\.out\\.println\\(.*\\); +// ([^:]+): .+");

    private final Check check = new Check("ReadmeTest");
    private final String readme;
    private final List<String[]> rows = new ArrayList<>();

    private ReadmeTest() throws IOException {
        readme = Files.readString(Path.of("README.md"));
        for (String line : readme.split("\n")) {
            if (line.startsWith("| ") && !line.startsWith("| ---")) {
                rows.add(line.substring(2, line.length() - 2).split(" \\| "));
            }
        }
    }

    public static void main(String[] args) throws IOException {
        ReadmeTest test = new ReadmeTest();
        test.calls();
        test.limits();
        test.exampleIsShown();
        test.exampleAnswers();
        test.namesEveryTest();
        test.check.end();
    }

    /** Each call of the face has a row, with what it throws in the order in which the face names it. */
    private void calls() {
        Set<String> due = new TreeSet<>();
        for (Method m : SignatureSpans.class.getDeclaredMethods()) {
            if (Modifier.isPublic(m.getModifiers())) {
                due.add(m.getReturnType() + " " + m.getName() + names(m.getParameterTypes())
                        + names(m.getExceptionTypes()));
            }
        }
        Set<String> told = new TreeSet<>();
        for (String[] row : rows) {
            Matcher call = CALL.matcher(row[0]);
            if (call.matches()) {
                told.add(call.group(1) + types(call.group(2)) + exceptions(row[2]));
            }
        }
        check.same("the calls", due.toString(), told.toString());
    }

    private static List<String> names(Class<?>[] types) {
        return Stream.of(types).map(Class::getSimpleName).toList();
    }

    private static List<String> types(String parameters) {
        return Stream.of(parameters.split(", ")).map(p -> p.split(" ")[0]).toList();
    }

    private static List<String> exceptions(String cell) {
        return EXCEPTION.matcher(cell).results().map(found -> found.group(1)).toList();
    }

    private void limits() {
        limit("bytes", new SignatureSpans(), (x, i) -> x.add((byte) i));
        limit("places", Check.file(40), (x, i) -> x.place(i, i + 1));
        limit("signatures", withPlaces(8), (x, i) -> x.sign(i, true, 0));
        limit("rows of a chain", withSignature(), (x, i) -> x.chain(0, 0, i));
        limit("changes", new SignatureSpans(), (x, i) -> x.change(i % 4, i % 20));
        limit("stamps", new SignatureSpans(), (x, i) -> x.stamp(i));
    }

    private interface Maker {
        int make(SignatureSpans x, int i);
    }

    /** As many as the row says are made, and one more throws what the row says. */
    private void limit(String of, SignatureSpans x, Maker maker) {
        String[] row = rowOf(of);
        int most = Integer.parseInt(row[1].replace(",", ""));
        String refused = "nothing";
        int made = 0;
        while (made <= most && refused.equals("nothing")) {
            int i = made;
            String outcome = Check.outcome(() -> maker.make(x, i));
            if (outcome.endsWith("Exception")) {
                refused = outcome;
            } else {
                made++;
            }
        }
        check.same(of, row[1].replace(",", ""), Integer.toString(made));
        check.same(of + ", one more", exceptions(row[2]).get(0), refused);
    }

    private String[] rowOf(String first) {
        for (String[] row : rows) {
            if (row[0].equals(first) && row.length == 3) {
                return row;
            }
        }
        throw new IllegalStateException("README.md has no row of " + first);
    }

    private static SignatureSpans withPlaces(int count) {
        SignatureSpans x = Check.file(count);
        for (int i = 0; i < count; i++) {
            x.place(i, i + 1);
        }
        return x;
    }

    private static SignatureSpans withSignature() {
        SignatureSpans x = withPlaces(1);
        x.sign(0, true, 0);
        return x;
    }

    private void exampleIsShown() throws IOException {
        String shown = "```java\n" + Files.readString(EXAMPLE) + "```\n";
        check.same("README.md shows the example", "true", Boolean.toString(readme.contains(shown)));
    }

    private void exampleAnswers() throws IOException {
        List<String> due = new ArrayList<>();
        for (String line : Files.readAllLines(EXAMPLE)) {
            Matcher printed = PRINTED.matcher(line.strip());
            if (printed.matches()) {
                due.add(printed.group(1));
            } else {
                check.same("a line that prints tells what", "false", Boolean.toString(line.contains("println")));
            }
        }
        check.same("the example", due.toString(), printedByExample().toString());
    }

    private static List<String> printedByExample() {
        PrintStream before = System.out;
        ByteArrayOutputStream printed = new ByteArrayOutputStream();
        System.setOut(new PrintStream(printed, true, StandardCharsets.UTF_8));
        try {
            Example.main(new String[0]);
        } finally {
            System.setOut(before);
        }
        return printed.toString(StandardCharsets.UTF_8).lines().toList();
    }

    private void namesEveryTest() throws IOException {
        Set<String> due = new TreeSet<>();
        try (Stream<Path> files = Files.list(TESTS)) {
            files.map(file -> file.getFileName().toString()).filter(name -> name.endsWith("Test.java"))
                    .forEach(name -> due.add(name.replace(".java", "")));
        }
        Set<String> told = new TreeSet<>();
        for (String[] row : rows) {
            if (row[0].endsWith("Test")) {
                told.add(row[0]);
            }
        }
        check.same("the tests", due.toString(), told.toString());
    }
}
