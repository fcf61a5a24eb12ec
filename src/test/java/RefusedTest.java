import java.util.ArrayList;
import java.util.Arrays;
import java.util.List;
import java.util.Map;
import java.util.Set;
import java.util.TreeMap;
import java.util.TreeSet;

/**
 * Every call with a row of edge values for each of its numbers, on an empty, a busy and a full green: one
 * that answers a finding changes nothing but status(), one that only asks changes nothing, and each
 * call answers just those findings that the document names for it.
 */
public final class RefusedTest {
    private static final int AT_ONCE = 24;
    private static final int MOST_CALLS = 512;

    private static final String EMPTY = "rain(0) 0";
    private static final String BUSY = """
        minutes(37) ?; mother(0) 0; mother(1) 1; mother(2) 2; mother(3) 3; mother(4) 4
        out(0, 1) 0; out(2, 1) 0; out(3, 1) 0; set(0, 2, 55) 10; set(0, 3, 8) 0; set(1, 2, 3) 10; set(3, 2, 44) 10; set(4, 3, 20) 0
        child(70) 0; child(5) 1; child(200) 2; ride(0, 1) 1; ride(1, 1) 2; iron(0, 7) 10; rain(9) 0; iron(1, 60) 0; minutes(4) ?; image() 1
        turn(2, 5) 2; set(2, 2, 90) 4; out(1, 1) 0; ride(2, 1) 2; minutes(2) ?
        sheet(0, 8, 5) 5; write(0, 0, 200) 0; write(0, 4, 33) 0; sheet(1, 16, 3) 3; write(1, 2, 999) 0; sheet(2, 64, 4) 4; write(2, 1, LOWEST) 0
        type heavy 31;rain 2;child 12 on
        """;
    private static final String FULL = """
        type mrs secret 99 out;gran secret 98 out;bride secret 97 out;aunt out;
        type mother secret 3;gossip out;mrs out
        green() 7; mother(4) 7
        type child 200 on;child 200 on;child 1 on;child 2;child 50 on;child 0
        green() 6; iron(0, 1) 10; iron(1, 200) 0; rain(16) 0; image() 1; minutes(3) 200; ride(0, 1) ?; ride(5, 1) ?
        sheet(1, 8, 40) 40; book(1) 40; sheet(2, 8, 40) 40; write(2, 39, 7) 0; sheet(3, 64, 0) 0
        30 x feed(1819044972, 4) ?
        """;

    private static final String FINDINGS = """
        iron BEYOND
        rain BEYOND
        now BEYOND
        mother BEYOND FULL
        of BEYOND
        set BEYOND
        out BEYOND
        turn BEYOND
        as BEYOND KIND
        child BEYOND FULL
        childOf BEYOND
        grip BEYOND
        ride BEYOND
        minutes BEYOND
        on BEYOND
        then BEYOND
        quick BEYOND NONE
        stands NONE
        flung BEYOND NONE
        send BEYOND NONE
        kind BEYOND
        firm BEYOND NONE
        heavy BEYOND NONE
        fewest BEYOND NONE
        weather BEYOND
        deepest BEYOND NONE
        feed BEYOND FULL
        wipe
        green
        sheet BEYOND SIZE
        write BEYOND MISSING
        copy BEYOND KIND MISSING
        lays BEYOND MISSING
        book BEYOND MISSING
        read BEYOND MISSING
        image
        undo NONE
        tear
        count BEYOND
        status BEYOND
        """;

    private static final String[] ONE = {"LOW", "-1000", "-2", "-1", "0", "1", "2", "3", "4", "5", "6", "7", "8", "9", "10", "31", "32", "40",
        "41", "50", "51", "60", "61", "99", "100", "101", "120", "200", "201", "255", "256", "999", "1000", "9999", "10000", "65536", "HIGH"};
    private static final String[] TWO = {"LOW", "-2", "-1", "0", "1", "2", "3", "4", "5", "6", "7", "8", "50", "51", "60", "61", "99", "100",
        "200", "201", "HIGH"};
    private static final String[] THREE = {"LOW", "-1", "0", "1", "2", "3", "4", "7", "8", "16", "40", "41", "64", "99", "100", "200", "201", "HIGH"};
    private static final String[] FIVE = {"-1", "0", "1", "2", "3", "4", "41"};
    private static final String[] FAR = {"LOW", "0", "HIGH"};

    private final Map<String, Set<String>> seen = new TreeMap<>();
    private final List<Rows.Row> waiting = new ArrayList<>();
    private List<Rows.Row> green;
    private String greenName;

    public static void main(String[] args) {
        RefusedTest test = new RefusedTest();
        test.sweep("empty", EMPTY);
        test.sweep("busy", BUSY);
        test.sweep("full", FULL);
        test.findings();
        Rows.end();
    }

    private void sweep(String name, String rows) {
        greenName = name;
        green = Rows.rowsOf(rows);
        checkGreen();
        for (String line : FINDINGS.split("\n")) {
            String call = line.strip().split(" ")[0];
            int numbers = Rows.howManyNumbers(call);
            everyTuple(call, numbers, numbers == 1 ? ONE : numbers == 2 ? TWO : numbers == 3 ? THREE : FIVE);
            if (numbers == 5) {
                everyTuple(call, numbers, FAR);
            }
            lookAtWaiting();
        }
    }

    /** The rows of the green itself must be answered as due, else the sweep would go over another one. */
    private void checkGreen() {
        Rows.Round x = new Rows.Round();
        for (Rows.Row row : green) {
            long got = x.call(row);
            if (row.isLookedAt() && got != row.answerDue()) {
                Rows.fail("the " + greenName + " green", row.told + " answered " + got + ", due is " + row.due);
            }
        }
    }

    private void everyTuple(String call, int numbers, String[] values) {
        int[] at = new int[numbers];
        boolean more = true;
        while (more) {
            StringBuilder told = new StringBuilder();
            for (int i = 0; i < numbers; i++) {
                told.append(i == 0 ? "" : ", ").append(values[at[i]]);
            }
            oneCall(call, call + "(" + told + ")");
            int i = 0;
            while (i < numbers && ++at[i] == values.length) {
                at[i++] = 0;
            }
            more = i < numbers;
        }
    }

    private void oneCall(String call, String told) {
        Rows.Round x = new Rows.Round();
        green.forEach(x::call);
        long[] before = x.status();
        long got = x.call(new Rows.Row(told, "?"));
        long[] after = x.status();
        String due = "" + got;
        boolean found = got <= -1000000001L && got >= -1000000007L;
        if (found) {
            int which = (int) (-1000000001L - got);
            due = Rows.FINDINGS[which];
            seen.computeIfAbsent(call, c -> new TreeSet<>()).add(due);
            before[which + 1]++;
            before[0]++;
        }
        if (!Arrays.equals(before, after)) {
            Rows.fail(greenName, told + " answered " + got + " and left status " + Arrays.toString(after));
        }
        if (found || Rows.onlyAsks(call)) {
            waiting.add(new Rows.Row(told, due));
            if (waiting.size() == AT_ONCE) {
                lookAtWaiting();
            }
        }
    }

    private void lookAtWaiting() {
        if (!waiting.isEmpty()) {
            Rows.twin("the " + greenName + " green, from " + waiting.get(0).told + " on", green, waiting, MOST_CALLS);
            waiting.clear();
        }
    }

    /** STATE of minutes needs more than 512 calls: TermsTest and EdgeTest look at it. */
    private void findings() {
        for (String line : FINDINGS.split("\n")) {
            String[] words = line.strip().split(" ");
            Set<String> due = new TreeSet<>(Arrays.asList(words).subList(1, words.length));
            Set<String> is = seen.getOrDefault(words[0], Set.of());
            if (!is.equals(due)) {
                Rows.fail("findings of " + words[0], "they are " + is + ", due are " + due);
            }
        }
    }
}
