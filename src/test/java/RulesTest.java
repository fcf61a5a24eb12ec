import java.io.IOException;
import java.lang.management.ManagementFactory;
import java.lang.reflect.Constructor;
import java.lang.reflect.Field;
import java.lang.reflect.Method;
import java.lang.reflect.Modifier;
import java.nio.file.Files;
import java.nio.file.Path;
import java.util.Set;
import java.util.TreeSet;
import java.util.regex.Matcher;
import java.util.regex.Pattern;

/** The rules of LANGUAGE.md that can be seen from outside or by the words of the source. */
public final class RulesTest {
    private static final Path SOURCE = Path.of("src/main/java/UnsaidRound.java");
    private static final String FACE = """
        iron int int -> int
        rain int -> int
        now int -> int
        mother int -> int
        of int int -> int
        set int int int -> int
        out int int -> int
        turn int int -> int
        as int int -> int
        child int -> int
        childOf int int -> int
        grip int int -> int
        ride int int -> int
        minutes int -> int
        on int int -> int
        then int int int -> int
        quick int -> int
        stands -> int
        flung int -> int
        send int -> int
        kind int int -> int
        firm int int -> int
        heavy int -> int
        fewest int -> int
        weather int -> int
        deepest int -> int
        feed int int -> int
        wipe -> int
        green -> int
        sheet int int int -> int
        write int int long -> long
        copy int int int int int -> int
        lays int -> int
        book int -> int
        read int int -> int
        image -> int
        undo -> int
        tear -> int
        count int -> int
        status int -> int
        """;
    private static final String[] NOT_ALLOWED = {"throw", "try", "catch", "synchronized", "assert", "->", "::", "import",
        "package", "protected", "Exact", "hashCode", "toString", "System.currentTimeMillis", "System.nanoTime", "native",
        "volatile", "Thread", "static \\{"};

    private static int wrong = 0;

    private static void due(boolean holds, String what) {
        if (!holds) {
            wrong++;
            System.out.println(what);
        }
    }

    public static void main(String[] args) throws IOException {
        face();
        members();
        words();
        lengths();
        noCallMakesAnything();
        System.out.println(wrong == 0 ? "the rules are kept" : wrong + " rules are not kept");
        if (wrong != 0) {
            System.exit(1);
        }
    }

    private static void face() {
        Set<String> due = new TreeSet<>(FACE.lines().toList());
        Set<String> is = new TreeSet<>();
        for (Method m : UnsaidRound.class.getDeclaredMethods()) {
            if (Modifier.isPublic(m.getModifiers())) {
                StringBuilder line = new StringBuilder(m.getName());
                for (Class<?> type : m.getParameterTypes()) {
                    line.append(' ').append(type.getName());
                }
                is.add(line.append(" -> ").append(m.getReturnType().getName()).toString());
            }
        }
        due(is.equals(due), "the face is " + is + ", due is " + due);
        due(Modifier.isPublic(UnsaidRound.class.getModifiers()) && Modifier.isFinal(UnsaidRound.class.getModifiers()),
            "the class is not public and final");
        Constructor<?>[] made = UnsaidRound.class.getDeclaredConstructors();
        due(made.length == 1 && made[0].getParameterCount() == 0 && Modifier.isPublic(made[0].getModifiers()),
            "the constructor is not the document's");
    }

    private static void members() {
        Set<String> open = new TreeSet<>();
        for (Method m : UnsaidRound.class.getDeclaredMethods()) {
            if (Modifier.isPublic(m.getModifiers())) {
                open.add(m.getName());
            }
        }
        for (Method m : UnsaidRound.class.getDeclaredMethods()) {
            if (!Modifier.isPublic(m.getModifiers())) {
                due(Modifier.isPrivate(m.getModifiers()), m + " is neither public nor private");
                due(!open.contains(m.getName()), m + " has the name of a public one");
            }
        }
        fieldsOf(UnsaidRound.class);
        for (Field f : UnsaidRound.class.getDeclaredFields()) {
            due(Modifier.isPrivate(f.getModifiers()), f + " is not private");
        }
        for (Class<?> inside : UnsaidRound.class.getDeclaredClasses()) {
            due(Modifier.isStatic(inside.getModifiers()), inside + " is not static");
            fieldsOf(inside);
            for (Method m : inside.getDeclaredMethods()) {
                due(!open.contains(m.getName()), m + " has the name of a public one");
                due(m.getParameterCount() <= 7, m + " has too many parameters");
            }
        }
    }

    private static void fieldsOf(Class<?> type) {
        int own = 0;
        for (Field f : type.getDeclaredFields()) {
            if (Modifier.isStatic(f.getModifiers())) {
                due(Modifier.isFinal(f.getModifiers()), f + " is static, but not final");
            } else {
                own++;
            }
        }
        due(own <= 20, type + " has " + own + " fields");
    }

    private static String source() throws IOException {
        String text = Files.readString(SOURCE);
        return text.replaceAll("(?s)/\\*.*?\\*/", "").replaceAll("//[^\n]*", "").replaceAll("\"[^\"\n]*\"", "\"\"");
    }

    private static void words() throws IOException {
        String code = source();
        for (String word : NOT_ALLOWED) {
            String edge = Character.isLetter(word.charAt(0)) ? "\\b" : "";
            due(!Pattern.compile(edge + word + (word.endsWith("{") ? "" : edge)).matcher(code).find(),
                "'" + word + "' is in the source");
        }
        Matcher library = Pattern.compile("\\b(Math|Integer|Long|System|Arrays|String|List|ArrayList)\\.(\\w+)").matcher(code);
        Set<String> allowed = Set.of("Math.max", "Math.min", "Math.abs", "Integer.bitCount", "System.arraycopy");
        while (library.find()) {
            due(allowed.contains(library.group()), library.group() + " is used");
        }
        for (int i = 0; i < code.length(); i++) {
            due(code.charAt(i) < 128, "a sign above 127 is in the source");
        }
    }

    private static void lengths() throws IOException {
        String[] lines = Files.readString(SOURCE).split("\n");
        int methods = 0;
        int classes = 0;
        for (int i = 0; i < lines.length; i++) {
            classes += lines[i].matches(".*\\b(class|enum|record|interface) \\w+.*\\{") ? 1 : 0;
            Matcher head = Pattern.compile("( {4}| {8})[a-zA-Z].*\\) \\{").matcher(lines[i]);
            if (head.matches() && !lines[i].strip().matches("(if|for|while|switch|else)\\b.*")) {
                int end = i;
                while (end < lines.length && !lines[end].equals(head.group(1) + "}")) {
                    end++;
                }
                methods++;
                due(end - i <= 60, "the method in line " + (i + 1) + " has " + (end - i) + " lines");
            }
        }
        due(methods > 41, "only " + methods + " methods were found");
        due(classes <= 12, "there are " + classes + " classes");
    }

    private static void noCallMakesAnything() {
        com.sun.management.ThreadMXBean threads = (com.sun.management.ThreadMXBean) ManagementFactory.getThreadMXBean();
        long me = Thread.currentThread().getId();
        UnsaidRound x = new UnsaidRound();
        everyCall(x);
        x = new UnsaidRound();
        long before = threads.getThreadAllocatedBytes(me);
        everyCall(x);
        long made = threads.getThreadAllocatedBytes(me) - before;
        due(made < 1000, "the calls made " + made + " bytes");
    }

    private static void everyCall(UnsaidRound x) {
        for (int i = 0; i < 8; i++) {
            x.mother(i % 6);
            x.out(i, 1);
            x.child(100);
            x.ride(i, 1);
        }
        x.sheet(0, 16, 40);
        x.sheet(1, 16, 40);
        x.rain(31);
        x.book(0);
        x.read(0, 0);
        x.write(0, 1, 2);
        x.copy(0, 0, 1, 0, 40);
        x.lays(0);
        x.rain(0);
        x.iron(1, 3);
        x.set(0, 2, 5);
        x.turn(0, 3);
        x.grip(0, 7);
        x.minutes(100);
        for (int i = -2; i < 12; i++) {
            x.now(i);
            x.of(0, i);
            x.as(0, i);
            x.childOf(0, i);
            x.on(i, 0);
            x.then(0, i, 0);
            x.quick(i);
            x.flung(i);
            x.send(60);
            x.kind(i, 60);
            x.firm(i, 60);
            x.heavy(60);
            x.fewest(9999);
            x.weather(60);
            x.deepest(200);
            x.feed(1835627323, i);
            x.count(i);
            x.status(i);
        }
        x.stands();
        x.green();
        x.wipe();
        x.image();
        x.undo();
        x.tear();
    }
}
