import java.lang.reflect.InvocationTargetException;
import java.lang.reflect.Method;
import java.util.ArrayList;
import java.util.Arrays;
import java.util.HashMap;
import java.util.List;
import java.util.Map;
import java.util.Set;

/**
 * Runs of calls on a new object, told in rows, each with the answer that is due:
 * <pre>
 * iron(0, 50) 10; iron(0, 51) BEYOND     calls with what is due; ? where nobody looks
 * 49 x minutes(100) 200                  the calls of a line, so many times
 * type mother out                        the bytes of a text come to the tape
 * text 1 mother out                      they come there, and green() answers 1
 * </pre>
 * Around each row whose due answer is a finding, and each that only asks, two twins are made, one
 * with that row and one without it: all that can be seen of them must be the same, but for status().
 */
final class Rows {
    static final String[] FINDINGS = {"BEYOND", "FULL", "KIND", "NONE", "STATE", "MISSING", "SIZE"};
    private static final long BEYOND = -1000000001L;
    private static final long MISSING = -1000000006L;
    private static final int MOST_CALLS = 512;
    private static final Set<String> ASKING = Set.of("now", "of", "as", "childOf", "on", "then", "quick", "stands", "flung",
        "send", "kind", "firm", "heavy", "fewest", "weather", "deepest", "read", "count", "status");
    private static final Map<String, Method> FACE = new HashMap<>();

    static {
        for (Method m : UnsaidRound.class.getDeclaredMethods()) {
            FACE.put(m.getName(), m);
        }
    }

    private static int wrong = 0;
    private static int edges = 0;
    private static int twins = 0;

    private Rows() {
    }

    /** One call of a run. */
    static final class Row {
        final String told;
        final String name;
        final Object[] values;
        final String due;

        Row(String told, String due) {
            this.told = told;
            this.due = due;
            name = told.substring(0, told.indexOf('('));
            String inside = told.substring(told.indexOf('(') + 1, told.lastIndexOf(')')).trim();
            String[] parts = inside.isEmpty() ? new String[0] : inside.split("\\s*,\\s*");
            Method m = FACE.get(name);
            if (m == null || m.getParameterCount() != parts.length) {
                throw new IllegalArgumentException("no such call: " + told);
            }
            values = new Object[parts.length];
            for (int i = 0; i < parts.length; i++) {
                long v = number(parts[i]);
                if (m.getParameterTypes()[i] == int.class) {
                    values[i] = Math.toIntExact(v);
                } else {
                    values[i] = v;
                }
            }
        }

        boolean isLookedAt() {
            return !due.equals("?");
        }

        /** -1 if a plain answer is due. */
        int findingDue() {
            return Arrays.asList(FINDINGS).indexOf(due);
        }

        long answerDue() {
            return findingDue() >= 0 ? BEYOND - findingDue() : number(due);
        }
    }

    private static long number(String told) {
        return switch (told) {
            case "LOW" -> Integer.MIN_VALUE;
            case "HIGH" -> Integer.MAX_VALUE;
            case "LOWEST" -> Long.MIN_VALUE;
            case "HIGHEST" -> Long.MAX_VALUE;
            default -> Long.parseLong(told);
        };
    }

    static int howManyNumbers(String call) {
        return FACE.get(call).getParameterCount();
    }

    static boolean onlyAsks(String call) {
        return ASKING.contains(call);
    }

    /** An object with how often it has been called. */
    static final class Round {
        private final UnsaidRound round = new UnsaidRound();
        int calls;

        long call(String name, Object... values) {
            calls++;
            try {
                return ((Number) FACE.get(name).invoke(round, values)).longValue();
            } catch (InvocationTargetException e) {
                throw new IllegalStateException(name + Arrays.toString(values) + " threw", e.getCause());
            } catch (IllegalAccessException e) {
                throw new IllegalStateException(e);
            }
        }

        long call(Row row) {
            return call(row.name, row.values);
        }

        long[] status() {
            long[] all = new long[FINDINGS.length + 1];
            for (int which = -1; which < FINDINGS.length; which++) {
                all[which + 1] = call("status", which);
            }
            return all;
        }

        private void green(List<String> seen, String when) {
            for (int what = 0; what < 10; what++) {
                seen.add(when + "now(" + what + ") " + call("now", what));
            }
            for (int what = 0; what < 4; what++) {
                seen.add(when + "count(" + what + ") " + call("count", what));
            }
            long mothers = call("count", 0);
            for (int m = 0; m < mothers; m++) {
                for (int what = 0; what < 7; what++) {
                    seen.add(when + "of(" + m + ", " + what + ") " + call("of", m, what));
                }
            }
            long children = call("count", 1);
            for (int c = 0; c < children; c++) {
                for (int what = 0; what < 3; what++) {
                    seen.add(when + "childOf(" + c + ", " + what + ") " + call("childOf", c, what));
                }
            }
            int rain = (int) call("rain", 0);
            call("rain", rain);
            seen.add(when + "RAIN " + rain);
        }

        private void sheets(List<String> seen) {
            for (int s = 0; s < 4; s++) {
                long was = 0;
                for (int i = 0; i < 41 && was != BEYOND && was != MISSING; i++) {
                    was = call("write", s, i, 0x0123456789abcde0L);
                    seen.add("write(" + s + ", " + i + ", ..) " + was);
                }
                seen.add("lowest bits in " + s + ": " + call("write", s, 0, 0L));
            }
        }

        /** All that can be seen but status(); nothing of it is left as it was. */
        List<String> everything() {
            List<String> seen = new ArrayList<>();
            green(seen, "");
            sheets(seen);
            seen.add("green() " + call("green"));
            green(seen, "after green(): ");
            seen.add("undo() " + call("undo"));
            green(seen, "after undo(): ");
            return seen;
        }
    }

    static List<Row> rowsOf(String told) {
        List<Row> rows = new ArrayList<>();
        for (String line : told.split("\n")) {
            String rest = line.strip();
            if (rest.startsWith("type ")) {
                feeds(rows, rest.substring(5));
            } else if (rest.startsWith("text ")) {
                String[] parts = rest.split(" ", 3);
                feeds(rows, parts.length > 2 ? parts[2] : "");
                rows.add(new Row("green()", parts[1]));
                rows.add(new Row("count(2)", "0"));
            } else if (!rest.isEmpty()) {
                calls(rows, rest);
            }
        }
        return rows;
    }

    private static void calls(List<Row> rows, String line) {
        int times = 1;
        String rest = line;
        if (line.matches("[0-9]+ x .*")) {
            times = Integer.parseInt(line.substring(0, line.indexOf(' ')));
            rest = line.substring(line.indexOf(" x ") + 3);
        }
        for (int i = 0; i < times; i++) {
            for (String one : rest.split(";")) {
                String call = one.strip();
                int end = call.lastIndexOf(')') + 1;
                rows.add(new Row(call.substring(0, end), call.substring(end).strip()));
            }
        }
    }

    /** A text's bytes as calls; ~ stands for a blank at the end, which an editor would take away. */
    private static void feeds(List<Row> rows, String text) {
        String bytes = text.replace('~', ' ');
        for (int at = 0; at < bytes.length(); at += 4) {
            int n = Math.min(4, bytes.length() - at);
            int v = 0;
            for (int i = 0; i < n; i++) {
                v = v << 8 | bytes.charAt(at + i) & 255;
            }
            rows.add(new Row("feed(" + v + ", " + n + ")", "?"));
        }
    }

    static void fail(String sentence, String what) {
        wrong++;
        System.out.println(sentence + ": " + what);
    }

    static void edge(String sentence, String told) {
        run(sentence, rowsOf(told), MOST_CALLS);
    }

    /** For what no object shows within 512 calls. */
    static void longEdge(String sentence, String told) {
        run(sentence, rowsOf(told), Integer.MAX_VALUE);
    }

    private static void run(String sentence, List<Row> rows, int mostCalls) {
        edges++;
        Round x = new Round();
        boolean looked = false;
        for (int i = 0; i < rows.size(); i++) {
            Row row = rows.get(i);
            long got = x.call(row);
            if (row.isLookedAt()) {
                looked = true;
                if (got != row.answerDue()) {
                    fail(sentence, "row " + i + ", " + row.told + ", answered " + got + ", due is " + row.due);
                    return;
                }
            }
        }
        if (!looked) {
            fail(sentence, "no row has an answer that is due");
        }
        twins(sentence, rows, mostCalls);
    }

    private static void twins(String sentence, List<Row> rows, int mostCalls) {
        String last = "";
        for (int i = 0; i < rows.size(); i++) {
            Row row = rows.get(i);
            boolean changesNothing = row.findingDue() >= 0 || row.isLookedAt() && onlyAsks(row.name);
            // A row like the one before it, in the same state, would show the same.
            if (changesNothing && !row.told.equals(last)) {
                twin(sentence, rows.subList(0, i), List.of(row), mostCalls);
            }
            last = changesNothing ? row.told : "";
        }
    }

    private static Round after(List<Row> rows) {
        Round x = new Round();
        for (Row row : rows) {
            x.call(row);
        }
        return x;
    }

    /** The rows that change nothing, behind those before them: all looks as if they had not been. */
    static void twin(String sentence, List<Row> before, List<Row> changingNothing, int mostCalls) {
        twins++;
        Round with = after(before);
        Round without = after(before);
        long[] due = without.status();
        for (Row row : changingNothing) {
            long got = with.call(row);
            int finding = row.findingDue();
            if (finding >= 0 && got == row.answerDue()) {
                due[finding + 1]++;
                due[0]++;
            } else if (!row.name.equals("status") && got != row.answerDue()) {
                fail(sentence, row.told + " answered " + got + ", due is " + row.due + " as before");
            }
        }
        String told = changingNothing.size() == 1 ? changingNothing.get(0).told : "one of the calls";
        long[] is = with.status();
        if (!Arrays.equals(is, due)) {
            fail(sentence, told + " left status " + Arrays.toString(is) + ", due is " + Arrays.toString(due));
        }
        List<String> seenWith = with.everything();
        List<String> seenWithout = without.everything();
        if (!seenWith.equals(seenWithout)) {
            fail(sentence, told + " changed " + firstChange(seenWith, seenWithout));
        }
        if (with.calls > mostCalls) {
            fail(sentence, told + " is looked at in " + with.calls + " calls, " + mostCalls + " are allowed");
        }
    }

    /** Two runs that must have led to the same, but perhaps for status(). */
    static void same(String sentence, String one, String other) {
        edges++;
        List<String> first = after(rowsOf(one)).everything();
        List<String> second = after(rowsOf(other)).everything();
        if (!first.equals(second)) {
            fail(sentence, "it is " + firstChange(first, second));
        }
    }

    private static String firstChange(List<String> is, List<String> due) {
        for (int i = 0; i < Math.min(is.size(), due.size()); i++) {
            if (!is.get(i).equals(due.get(i))) {
                return is.get(i) + ", due is " + due.get(i);
            }
        }
        return "how much there is to see";
    }

    static void end() {
        String looked = edges + twins == 0 ? "" : ": " + edges + " edges, " + twins + " twins";
        System.out.println(wrong == 0 ? "all is as due" + looked : wrong + " answers or states are not as due");
        if (wrong != 0) {
            System.exit(1);
        }
    }
}
