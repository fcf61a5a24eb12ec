import java.io.IOException;
import java.nio.file.Files;
import java.nio.file.Path;
import java.util.List;
import java.util.Map;
import java.util.Set;
import java.util.TreeMap;
import java.util.TreeSet;
import java.util.regex.Matcher;
import java.util.regex.Pattern;

/** What README.md tells: its examples answer as they say, and its tables name every call as the document does. */
public final class ReadmeTest {
    /** Each call of the document with its findings, in the order in which they are asked. */
    private static final String FACE = """
        iron(what, v) BEYOND
        rain(set) BEYOND
        now(what) BEYOND
        mother(kind) BEYOND FULL
        of(mother, what) BEYOND
        set(mother, what, v) BEYOND
        out(mother, v) BEYOND
        turn(mother, kind) BEYOND
        as(mother, kind) BEYOND KIND
        child(grip) BEYOND FULL
        childOf(child, what) BEYOND
        grip(child, v) BEYOND
        ride(child, v) BEYOND
        minutes(n) BEYOND STATE
        on(n, what) BEYOND
        then(mother, n, what) BEYOND
        quick(v) BEYOND NONE
        stands() NONE
        flung(child) BEYOND NONE
        send(n) BEYOND NONE
        kind(mother, n) BEYOND
        firm(child, n) BEYOND NONE
        heavy(n) BEYOND NONE
        fewest(v) BEYOND NONE
        weather(n) BEYOND
        deepest(n) BEYOND NONE
        feed(bytes, n) BEYOND FULL
        wipe()
        green()
        sheet(s, bits, n) BEYOND SIZE BEYOND
        write(s, i, v) BEYOND MISSING BEYOND
        copy(s, from, t, to, n) BEYOND MISSING KIND BEYOND
        lays(s) BEYOND MISSING
        book(s) BEYOND MISSING
        read(s, mother) BEYOND MISSING BEYOND
        image()
        undo() NONE
        tear()
        count(what) BEYOND
        status(which) BEYOND
        """;
    private static final Pattern MADE = Pattern.compile("UnsaidRound round = new UnsaidRound\\(\\);");
    private static final Pattern CALL = Pattern.compile("round\\.(\\w+\\([^)]*\\)); +// ([A-Z]+|-?[0-9]+)(: .+)?");
    private static final Pattern IN_TABLE = Pattern.compile("\\| `(\\w+\\([^)]*\\))` \\|.*\\|([^|]*)\\|");

    private final List<String> page;
    private final Map<String, String> findings = new TreeMap<>();
    private int examples;

    private ReadmeTest(List<String> page) {
        this.page = page;
        for (String line : FACE.split("\n")) {
            int end = line.indexOf(')') + 1;
            findings.put(line.substring(0, end), line.substring(end).strip());
        }
    }

    public static void main(String[] args) throws IOException {
        ReadmeTest test = new ReadmeTest(Files.readAllLines(Path.of("README.md")));
        test.runExamples();
        test.lookAtTables();
        test.lookAtFindings();
        System.out.println(test.examples + " examples of README.md were run");
        Rows.end();
    }

    private void runExamples() {
        Rows.Round round = null;
        Set<String> left = new TreeSet<>();
        findings.keySet().forEach(call -> left.add(call.substring(0, call.indexOf('('))));
        boolean inside = false;
        for (int i = 0; i < page.size(); i++) {
            String line = page.get(i);
            Matcher call = CALL.matcher(line);
            if (line.startsWith("```")) {
                inside = line.equals("```java");
            } else if (inside && MADE.matcher(line).matches()) {
                round = new Rows.Round();
            } else if (inside && round != null && call.matches()) {
                Rows.Row row = new Rows.Row(inDecimals(call.group(1)), call.group(2));
                left.remove(row.name);
                runExample("line " + (i + 1), round, row);
            } else if (inside) {
                Rows.fail("line " + (i + 1), "this is no call with its answer: " + line);
            }
        }
        if (!left.isEmpty()) {
            Rows.fail("the examples", "they show nothing of " + left);
        }
    }

    private void runExample(String where, Rows.Round round, Rows.Row row) {
        examples++;
        long got = round.call(row);
        if (got != row.answerDue()) {
            Rows.fail(where, row.told + " answered " + got + ", the page says " + row.due);
        }
    }

    private static String inDecimals(String call) {
        return Pattern.compile("0x([0-9A-F]+)").matcher(call).replaceAll(hex -> "" + Long.parseLong(hex.group(1), 16));
    }

    private void lookAtTables() {
        Set<String> left = new TreeSet<>(findings.keySet());
        for (String line : page) {
            Matcher row = IN_TABLE.matcher(line);
            if (row.matches()) {
                String call = row.group(1);
                if (!left.remove(call)) {
                    Rows.fail("the tables", call + " is not so in the document, or stands there twice");
                } else if (!findingsIn(row.group(2)).equals(findings.get(call))) {
                    Rows.fail("the tables", call + " has the findings " + findingsIn(row.group(2)) + ", due are " + findings.get(call));
                }
            }
        }
        if (!left.isEmpty()) {
            Rows.fail("the tables", "they have nothing of " + left);
        }
    }

    /** What stands in brackets behind a finding says when, and is left out. */
    private static String findingsIn(String told) {
        return told.replaceAll("\\([^)]*\\)", "").replaceAll("[ ,]+", " ").strip();
    }

    private void lookAtFindings() {
        for (int i = 0; i < Rows.FINDINGS.length; i++) {
            String row = "| " + (-1000000001 - i) + " | " + Rows.FINDINGS[i] + " | ";
            if (page.stream().filter(line -> line.startsWith(row)).count() != 1) {
                Rows.fail("the findings", "they don't stand once: " + row);
            }
        }
    }
}
