import java.util.ArrayList;
import java.util.List;
import java.util.Random;
import java.util.function.IntPredicate;

/**
 * Random runs of calls on the program and on a model beside it, which is written from the
 * document in another way: kinds as classes, fresh copies for each look ahead, no shortcut.
 */
public final class ModelTest {
    private static final int RUNS = 2000;
    private static final int CALLS = 160;
    private static final long SEED = 20261118L;

    // ---- the model

    private static class Mother {
        boolean out;
        int secret = 10;
        int silent;

        int kind() {
            return 0;
        }

        int keeps(int others, boolean night) {
            return secret / 5 + silent;
        }

        boolean speaks(int others, boolean night, int speed) {
            return silent >= 9;
        }

        int tells() {
            return 3;
        }

        static Mother ofKind(int kind) {
            return switch (kind) {
                case 0 -> new Mother();
                case 1 -> new Aunt();
                case 2 -> new Gossip();
                case 3 -> new Mrs();
                case 4 -> new Gran();
                default -> new Bride();
            };
        }

        Mother turned(int kind) {
            Mother m = ofKind(kind);
            m.out = out;
            m.secret = secret;
            m.silent = silent;
            return m;
        }
    }

    private static class Aunt extends Mother {
        @Override int kind() {
            return 1;
        }

        @Override int keeps(int others, boolean night) {
            return secret / 2 + silent;
        }

        @Override boolean speaks(int others, boolean night, int speed) {
            return silent >= 15;
        }

        @Override int tells() {
            return super.tells() - 1;
        }
    }

    private static class Gossip extends Mother {
        @Override int kind() {
            return 2;
        }

        @Override int keeps(int others, boolean night) {
            return others == 0 ? 0 : super.keeps(others, night);
        }

        @Override boolean speaks(int others, boolean night, int speed) {
            return silent >= 3 && others > 0;
        }

        @Override int tells() {
            return super.tells() * 2;
        }
    }

    private static final class Mrs extends Mother {
        @Override int kind() {
            return 3;
        }

        @Override int keeps(int others, boolean night) {
            return secret + secret;
        }

        @Override boolean speaks(int others, boolean night, int speed) {
            return false;
        }

        @Override int tells() {
            return 0;
        }
    }

    private static final class Gran extends Aunt {
        @Override int kind() {
            return 4;
        }

        @Override int keeps(int others, boolean night) {
            return super.keeps(others, night) + (night ? 10 : 0);
        }

        @Override boolean speaks(int others, boolean night, int speed) {
            return !night && super.speaks(others, night, speed);
        }
    }

    private static final class Bride extends Gossip {
        @Override int kind() {
            return 5;
        }

        @Override int keeps(int others, boolean night) {
            return super.keeps(others, night) + 3 * others;
        }

        @Override boolean speaks(int others, boolean night, int speed) {
            return speed > 100 || super.speaks(others, night, speed);
        }

        @Override int tells() {
            return super.tells() + 1;
        }
    }

    private static final class Child {
        int grip;
        boolean on;
        int flung;
    }

    private static final class World {
        int minute;
        boolean[] rain = new boolean[5];
        int heavy = 10;
        int speed;
        int turned;
        List<Mother> mothers = new ArrayList<>();
        List<Child> children = new ArrayList<>();

        World twin() {
            World w = new World();
            w.minute = minute;
            w.rain = rain.clone();
            w.heavy = heavy;
            w.speed = speed;
            w.turned = turned;
            for (Mother m : mothers) {
                w.mothers.add(m.turned(m.kind()));
            }
            for (Child c : children) {
                Child d = new Child();
                d.grip = c.grip;
                d.on = c.on;
                d.flung = c.flung;
                w.children.add(d);
            }
            return w;
        }

        World after(int n) {
            World w = twin();
            for (int i = 0; i < n; i++) {
                w.go();
            }
            return w;
        }

        boolean night() {
            return minute % 50 >= 40;
        }

        boolean wet() {
            return rain[minute % 50 / 10];
        }

        int othersOf(Mother m) {
            int others = 0;
            for (Mother o : mothers) {
                others += o != m && o.out ? 1 : 0;
            }
            return others;
        }

        int weight() {
            int weight = heavy;
            for (Child c : children) {
                weight += c.on ? 2 : 0;
            }
            return weight;
        }

        int push() {
            int push = 0;
            for (Mother m : mothers) {
                push += m.out && !wet() ? m.keeps(othersOf(m), night()) : 0;
            }
            return push;
        }

        int flungOfAll() {
            return children.stream().mapToInt(c -> c.flung).sum();
        }

        int rainSet() {
            int set = 0;
            for (int p = 0; p < 5; p++) {
                set += rain[p] ? 1 << p : 0;
            }
            return set;
        }

        int outSet() {
            int set = 0;
            for (int m = 0; m < mothers.size(); m++) {
                set += mothers.get(m).out ? 1 << m : 0;
            }
            return set;
        }

        int onSet() {
            int set = 0;
            for (int c = 0; c < children.size(); c++) {
                set += children.get(c).on ? 1 << c : 0;
            }
            return set;
        }

        void go() {
            int next = speed + push() / weight();
            next -= speed < 10 ? 1 : speed / 10;
            speed = next < 0 ? 0 : next > 200 ? 200 : next;
            turned = turned + speed > 999999 ? 999999 : turned + speed;
            for (Child c : children) {
                if (c.on && c.grip < speed) {
                    c.on = false;
                    c.flung = c.flung == 9999 ? 9999 : c.flung + 1;
                } else if (c.on && speed > 30 && c.grip > 0) {
                    c.grip--;
                }
            }
            for (Mother m : mothers) {
                if (m.out && m.speaks(othersOf(m), night(), speed)) {
                    m.secret = m.secret < m.tells() ? 0 : m.secret - m.tells();
                    m.silent = 0;
                } else if (m.out && m.silent < 999) {
                    m.silent++;
                }
            }
            minute++;
        }
    }

    private static final class Found extends RuntimeException {
        private static final long serialVersionUID = 1L;
        final int which;

        Found(int which) {
            super(null, null, false, false);
            this.which = which;
        }
    }

    private static final int BEYOND = 0;
    private static final int FULL = 1;
    private static final int KIND = 2;
    private static final int NONE = 3;
    private static final int STATE = 4;
    private static final int MISSING = 5;
    private static final int SIZE = 6;

    private static void ask(boolean holds, int otherwise) {
        if (!holds) {
            throw new Found(otherwise);
        }
    }

    private static void range(int v, int least, int most) {
        ask(v >= least && v <= most, BEYOND);
    }

    /** The whole object, each call by the name that it has in the document. */
    private static final class Model {
        World w = new World();
        World image;
        StringBuilder tape = new StringBuilder();
        long[][] sheets = new long[4][];
        int[] bits = new int[4];
        int[] status = new int[7];

        long call(String name, long[] a) {
            try {
                return answer(name, a, (int) at(a, 0), (int) at(a, 1), (int) at(a, 2));
            } catch (Found f) {
                status[f.which]++;
                return -1000000001L - f.which;
            }
        }

        private static long at(long[] a, int i) {
            return i < a.length ? a[i] : 0;
        }

        private Mother m(int number) {
            range(number, 0, w.mothers.size() - 1);
            return w.mothers.get(number);
        }

        private Child c(int number) {
            range(number, 0, w.children.size() - 1);
            return w.children.get(number);
        }

        private long[] sheetAt(int s) {
            range(s, 0, 3);
            ask(sheets[s] != null, MISSING);
            return sheets[s];
        }

        private int firstMinute(int from, int to, World start, java.util.function.Predicate<World> is) {
            World t = start.after(from);
            for (int n = from; n <= to; n++) {
                if (is.test(t)) {
                    return n;
                }
                t = t.after(1);
            }
            throw new Found(NONE);
        }

        private static int firstOf(int from, int to, IntPredicate is) {
            for (int i = from; i <= to; i++) {
                if (is.test(i)) {
                    return i;
                }
            }
            throw new Found(NONE);
        }

        long answer(String name, long[] a, int p, int q, int r) {
            switch (name) {
                case "iron": {
                    range(p, 0, 1);
                    range(q, p == 0 ? 1 : 0, p == 0 ? 50 : 200);
                    int was = p == 0 ? w.heavy : w.speed;
                    if (p == 0) {
                        w.heavy = q;
                    } else {
                        w.speed = q;
                    }
                    return was;
                }
                case "rain": {
                    range(p, 0, 31);
                    int was = w.rainSet();
                    for (int i = 0; i < 5; i++) {
                        w.rain[i] = (p & 1 << i) != 0;
                    }
                    return was;
                }
                case "now": {
                    range(p, 0, 9);
                    return new int[] {w.minute, w.minute % 50, w.night() ? 1 : 0, w.wet() ? 1 : 0, w.speed, w.turned,
                        w.weight(), w.push(), w.outSet(), w.onSet()}[p];
                }
                case "mother": {
                    range(p, 0, 5);
                    ask(w.mothers.size() < 8, FULL);
                    w.mothers.add(Mother.ofKind(p));
                    return w.mothers.size() - 1;
                }
                case "of": {
                    Mother m = m(p);
                    range(q, 0, 6);
                    int o = w.othersOf(m);
                    return new int[] {m.kind(), m.out ? 1 : 0, m.secret, m.silent, m.keeps(o, w.night()),
                        m.speaks(o, w.night(), w.speed) ? 1 : 0, m.tells()}[q];
                }
                case "set": {
                    Mother m = m(p);
                    range(q, 2, 3);
                    range(r, 0, q == 2 ? 99 : 999);
                    int was = q == 2 ? m.secret : m.silent;
                    if (q == 2) {
                        m.secret = r;
                    } else {
                        m.silent = r;
                    }
                    return was;
                }
                case "out": {
                    Mother m = m(p);
                    range(q, 0, 1);
                    int was = m.out ? 1 : 0;
                    m.out = q == 1;
                    m.silent = 0;
                    return was;
                }
                case "turn": {
                    Mother m = m(p);
                    range(q, 0, 5);
                    w.mothers.set(p, m.turned(q));
                    return m.kind();
                }
                case "as": {
                    Mother m = m(p);
                    range(q, 0, 5);
                    ask(Mother.ofKind(q).getClass().isInstance(m), KIND);
                    return m.secret;
                }
                case "child": {
                    range(p, 0, 200);
                    ask(w.children.size() < 6, FULL);
                    Child c = new Child();
                    c.grip = p;
                    w.children.add(c);
                    return w.children.size() - 1;
                }
                case "childOf": {
                    Child c = c(p);
                    range(q, 0, 2);
                    return q == 0 ? c.grip : q == 1 ? (c.on ? 1 : 0) : c.flung;
                }
                case "grip": {
                    Child c = c(p);
                    range(q, 0, 200);
                    int was = c.grip;
                    c.grip = q;
                    return was;
                }
                case "ride": {
                    Child c = c(p);
                    range(q, 0, 1);
                    c.on = q == 1;
                    return w.children.stream().filter(d -> d.on).count();
                }
                case "minutes": {
                    range(p, 1, 100);
                    ask(w.minute + p <= 99999, STATE);
                    w = w.after(p);
                    return w.speed;
                }
                case "on": {
                    range(p, 0, 200);
                    range(q, 0, 2);
                    World t = w.after(p);
                    return q == 0 ? t.speed : q == 1 ? t.turned : t.onSet();
                }
                case "then": {
                    m(p);
                    range(q, 0, 200);
                    range(r, 0, 1);
                    Mother m = w.after(q).mothers.get(p);
                    return r == 0 ? m.secret : m.silent;
                }
                case "quick":
                    range(p, 0, 200);
                    return firstMinute(0, 200, w, t -> t.speed >= p);
                case "stands":
                    return firstMinute(0, 200, w, t -> t.speed == 0);
                case "flung": {
                    int before = c(p).flung;
                    return firstMinute(1, 200, w, t -> t.children.get(p).flung > before);
                }
                default:
                    return answerWhatIsBest(name, a, p, q, r);
            }
        }

        private long answerWhatIsBest(String name, long[] a, int p, int q, int r) {
            switch (name) {
                case "send": {
                    range(p, 1, 60);
                    int best = -1;
                    int least = Integer.MAX_VALUE;
                    for (int m = w.mothers.size() - 1; m >= 0; m--) {
                        World t = w.twin();
                        if (t.mothers.get(m).out) {
                            t.mothers.get(m).out = false;
                            t.mothers.get(m).silent = 0;
                            t = t.after(p);
                            best = t.turned <= least ? m : best;
                            least = Math.min(least, t.turned);
                        }
                    }
                    ask(best >= 0, NONE);
                    return best;
                }
                case "kind": {
                    m(p);
                    range(q, 1, 60);
                    int[] turned = new int[6];
                    int most = 0;
                    for (int k = 0; k < 6; k++) {
                        World t = w.twin();
                        t.mothers.set(p, t.mothers.get(p).turned(k));
                        turned[k] = t.after(q).turned;
                        most = Math.max(most, turned[k]);
                    }
                    int top = most;
                    return firstOf(0, 5, k -> turned[k] == top);
                }
                case "firm": {
                    int before = c(p).flung;
                    range(q, 1, 60);
                    return firstOf(0, 200, g -> {
                        World t = w.twin();
                        t.children.get(p).grip = g;
                        return t.after(q).children.get(p).flung == before;
                    });
                }
                case "heavy":
                    range(p, 1, 60);
                    return firstOf(1, 50, h -> {
                        World t = w.twin();
                        t.heavy = h;
                        return t.after(p).flungOfAll() == w.flungOfAll();
                    });
                case "fewest": {
                    range(p, 0, 9999);
                    for (int size = 0; size <= 8; size++) {
                        for (int set = 0; set < 1 << w.mothers.size(); set++) {
                            if (Integer.bitCount(set) == size && (set & w.outSet()) == 0 && pushWith(set) >= p) {
                                return set;
                            }
                        }
                    }
                    throw new Found(NONE);
                }
                case "weather": {
                    range(p, 1, 60);
                    int[] change = new int[5];
                    int most = 0;
                    for (int part = 0; part < 5; part++) {
                        World t = w.twin();
                        t.rain[part] = !t.rain[part];
                        change[part] = Math.abs(t.after(p).turned - w.after(p).turned);
                        most = Math.max(most, change[part]);
                    }
                    int top = most;
                    return firstOf(0, 4, part -> change[part] == top);
                }
                case "deepest": {
                    range(p, 0, 200);
                    World t = w.after(p);
                    int most = t.mothers.stream().filter(m -> m.out)
                        .mapToInt(m -> m.keeps(t.othersOf(m), t.night())).max().orElse(-1);
                    return firstOf(0, t.mothers.size() - 1, i -> t.mothers.get(i).out
                        && t.mothers.get(i).keeps(t.othersOf(t.mothers.get(i)), t.night()) == most);
                }
                default:
                    return answerTexts(name, a, p, q, r);
            }
        }

        private int pushWith(int set) {
            World t = w.twin();
            for (int m = 0; m < t.mothers.size(); m++) {
                if ((set & 1 << m) != 0) {
                    t.mothers.get(m).out = true;
                    t.mothers.get(m).silent = 0;
                }
            }
            return t.push();
        }

        private long answerTexts(String name, long[] a, int p, int q, int r) {
            switch (name) {
                case "feed": {
                    range(q, 1, 4);
                    ask(tape.length() + q <= 120, FULL);
                    StringBuilder bytes = new StringBuilder();
                    for (int i = 0; i < q; i++) {
                        bytes.insert(0, (char) (p >>> 8 * i & 255));
                    }
                    tape.append(bytes);
                    return tape.length();
                }
                case "wipe": {
                    int had = tape.length();
                    tape = new StringBuilder();
                    return had;
                }
                case "green": {
                    String text = tape.toString();
                    tape = new StringBuilder();
                    return new Reading(text).into(this);
                }
                case "sheet": {
                    range(p, 0, 3);
                    ask(q == 0 || q == 8 || q == 16 || q == 64, BEYOND);
                    ask(r >= 0, SIZE);
                    ask(r <= 40, BEYOND);
                    bits[p] = q;
                    sheets[p] = q == 0 ? null : new long[r];
                    return q == 0 ? 0 : r;
                }
                case "write": {
                    long[] row = sheetAt(p);
                    range(q, 0, row.length - 1);
                    long was = row[q];
                    row[q] = cut(p, a[2]);
                    return was;
                }
                case "copy": {
                    range(p, 0, 3);
                    range(r, 0, 3);
                    long[] from = sheetAt(p);
                    long[] to = sheetAt(r);
                    ask(bits[p] == bits[r], KIND);
                    ask(a[1] >= 0 && a[3] >= 0 && a[4] >= 0, BEYOND);
                    ask(a[1] + a[4] <= from.length && a[3] + a[4] <= to.length, BEYOND);
                    long[] were = from.clone();
                    for (int i = 0; i < a[4]; i++) {
                        to[(int) a[3] + i] = were[(int) a[1] + i];
                    }
                    return a[4];
                }
                case "lays": {
                    long[] row = sheetAt(p);
                    int came = 0;
                    for (int i = 0; i < Math.min(row.length, w.mothers.size()); i++) {
                        if (row[i] >= 0 && row[i] < 100) {
                            w.mothers.get(i).secret = (int) row[i];
                            came++;
                        }
                    }
                    return came;
                }
                case "book": {
                    long[] row = sheetAt(p);
                    for (int i = 0; i < row.length; i++) {
                        row[i] = cut(p, w.after(i).speed);
                    }
                    return row.length;
                }
                case "read":
                    return pairs(sheetAt(p), q);
                default:
                    return answerImages(name, p);
            }
        }

        private long cut(int s, long v) {
            return v << 64 - bits[s] >> 64 - bits[s];
        }

        private int pairs(long[] row, int mother) {
            m(mother);
            int fit = 0;
            for (int kind = 0; kind < 6; kind++) {
                for (int secret = 0; secret < 100; secret++) {
                    World t = w.twin();
                    t.mothers.set(mother, t.mothers.get(mother).turned(kind));
                    t.mothers.get(mother).secret = secret;
                    boolean same = true;
                    for (int i = 0; i < row.length && same; i++) {
                        same = row[i] == t.speed;
                        t.go();
                    }
                    fit += same ? 1 : 0;
                }
            }
            return fit;
        }

        private long answerImages(String name, int p) {
            switch (name) {
                case "image":
                    image = w.twin();
                    return 1;
                case "undo":
                    ask(image != null, NONE);
                    w = image.twin();
                    return w.mothers.size();
                case "tear": {
                    int was = image == null ? 0 : 1;
                    image = null;
                    return was;
                }
                case "count":
                    range(p, 0, 3);
                    return new int[] {w.mothers.size(), w.children.size(), tape.length(), w.flungOfAll()}[p];
                case "status": {
                    range(p, -1, 6);
                    int all = 0;
                    for (int s : status) {
                        all += s;
                    }
                    return p < 0 ? all : status[p];
                }
                default:
                    throw new IllegalStateException(name);
            }
        }
    }

    /** THE TEXT, cut into all its tokens first and looked at afterwards. */
    private static final class Reading {
        private static final List<String> KINDS = List.of("mother", "aunt", "gossip", "mrs", "gran", "bride");
        private final List<String> tokens = new ArrayList<>();
        private final List<Integer> places = new ArrayList<>();
        private int next;

        Reading(String text) {
            java.util.regex.Matcher m = java.util.regex.Pattern.compile("[a-z]+|[0-9]+|[^ ]",
                java.util.regex.Pattern.DOTALL).matcher(text);
            while (m.find()) {
                tokens.add(m.group());
                places.add(m.start());
            }
            tokens.add("");
            places.add(text.length());
        }

        private static final class Fault extends RuntimeException {
            private static final long serialVersionUID = 1L;
        }

        private boolean takes(String token) {
            if (tokens.get(next).equals(token)) {
                next++;
                return true;
            }
            return false;
        }

        private void must(boolean holds) {
            if (!holds) {
                throw new Fault();
            }
        }

        private int number(int least, int most) {
            must(tokens.get(next).matches("[0-9]+"));
            java.math.BigInteger n = new java.math.BigInteger(tokens.get(next));
            must(n.bitLength() < 20 && n.intValue() >= least && n.intValue() <= most);
            next++;
            return n.intValue();
        }

        int into(Model model) {
            World w = model.w.twin();
            int items = 0;
            try {
                do {
                    item(w);
                    items++;
                } while (takes(";"));
                must(tokens.get(next).isEmpty());
            } catch (Fault f) {
                return -1 - places.get(next);
            }
            model.w = w;
            return items;
        }

        private void item(World w) {
            int kind = KINDS.indexOf(tokens.get(next));
            if (kind >= 0) {
                must(w.mothers.size() < 8);
                next++;
                Mother m = Mother.ofKind(kind);
                m.secret = takes("secret") ? number(0, 99) : 10;
                m.out = takes("out");
                w.mothers.add(m);
            } else if (tokens.get(next).equals("child")) {
                must(w.children.size() < 6);
                next++;
                Child c = new Child();
                c.grip = number(0, 200);
                c.on = takes("on");
                w.children.add(c);
            } else if (takes("rain")) {
                w.rain[number(0, 4)] = true;
            } else if (takes("dry")) {
                w.rain[number(0, 4)] = false;
            } else {
                must(takes("heavy"));
                w.heavy = number(1, 50);
            }
        }
    }

    // ---- the program by the names of its calls

    private static long program(UnsaidRound x, String name, long[] a) {
        int p = a.length > 0 ? (int) a[0] : 0;
        int q = a.length > 1 ? (int) a[1] : 0;
        int r = a.length > 2 ? (int) a[2] : 0;
        return switch (name) {
            case "iron" -> x.iron(p, q);
            case "rain" -> x.rain(p);
            case "now" -> x.now(p);
            case "mother" -> x.mother(p);
            case "of" -> x.of(p, q);
            case "set" -> x.set(p, q, r);
            case "out" -> x.out(p, q);
            case "turn" -> x.turn(p, q);
            case "as" -> x.as(p, q);
            case "child" -> x.child(p);
            case "childOf" -> x.childOf(p, q);
            case "grip" -> x.grip(p, q);
            case "ride" -> x.ride(p, q);
            case "minutes" -> x.minutes(p);
            case "on" -> x.on(p, q);
            case "then" -> x.then(p, q, r);
            case "quick" -> x.quick(p);
            case "stands" -> x.stands();
            case "flung" -> x.flung(p);
            case "send" -> x.send(p);
            case "kind" -> x.kind(p, q);
            case "firm" -> x.firm(p, q);
            case "heavy" -> x.heavy(p);
            case "fewest" -> x.fewest(p);
            case "weather" -> x.weather(p);
            case "deepest" -> x.deepest(p);
            case "feed" -> x.feed(p, q);
            case "wipe" -> x.wipe();
            case "green" -> x.green();
            case "sheet" -> x.sheet(p, q, r);
            case "write" -> x.write(p, q, a[2]);
            case "copy" -> x.copy(p, q, r, (int) a[3], (int) a[4]);
            case "lays" -> x.lays(p);
            case "book" -> x.book(p);
            case "read" -> x.read(p, q);
            case "image" -> x.image();
            case "undo" -> x.undo();
            case "tear" -> x.tear();
            case "count" -> x.count(p);
            case "status" -> x.status(p);
            default -> throw new IllegalStateException(name);
        };
    }

    // ---- runs

    private static final String[] CHEAP = {"iron", "rain", "now", "mother", "mother", "of", "of", "set", "set", "out",
        "out", "out", "turn", "as", "child", "child", "childOf", "grip", "ride", "ride", "minutes", "minutes", "on",
        "then", "wipe", "sheet", "write", "copy", "lays", "book", "image", "undo", "tear", "count", "status", "feed",
        "text", "text"};
    private static final String[] DEAR = {"quick", "stands", "flung", "send", "kind", "firm", "heavy", "fewest",
        "weather", "deepest", "read", "bookread"};
    private static final String[] WORDS = {"mother", "aunt", "gossip", "mrs", "gran", "bride", "secret", "out", "child",
        "on", "rain", "dry", "heavy", ";", ";", ";", "5", "0", "99", "100", "200", "201", "50", "51", "4", "1000",
        "007", "x", "?", " ", "Out"};

    private final Random random = new Random(SEED);
    private final StringBuilder told = new StringBuilder();
    private UnsaidRound program;
    private Model model;
    private int wrong;

    private int upTo(int most) {
        return random.nextInt(most + 1);
    }

    /** Mostly within 0 to most, now and then at its edge or wholly beyond. */
    private int about(int most) {
        return switch (upTo(40)) {
            case 0 -> -1;
            case 1 -> most + 1;
            case 2 -> most;
            case 3 -> 0;
            case 4 -> upTo(20) == 0 ? random.nextInt() : upTo(most);
            default -> upTo(most);
        };
    }

    private int mother() {
        return about(Math.max(0, model.w.mothers.size() - 1));
    }

    private int child() {
        return about(Math.max(0, model.w.children.size() - 1));
    }

    private long[] arguments(String name) {
        return switch (name) {
            case "iron" -> upTo(1) == 0 ? new long[] {0, about(50)} : new long[] {about(1), about(200)};
            case "rain" -> new long[] {upTo(2) == 0 ? about(31) : 0};
            case "now" -> new long[] {about(9)};
            case "mother" -> new long[] {about(5)};
            case "of" -> new long[] {mother(), about(6)};
            case "set" -> new long[] {mother(), upTo(30) == 0 ? about(4) : 2 + upTo(1), about(upTo(3) == 0 ? 999 : 99)};
            case "out" -> new long[] {mother(), upTo(30) == 0 ? about(1) : upTo(3) == 0 ? 0 : 1};
            case "turn", "as" -> new long[] {mother(), about(5)};
            case "child" -> new long[] {about(200)};
            case "childOf" -> new long[] {child(), about(2)};
            case "grip" -> new long[] {child(), about(200)};
            case "ride" -> new long[] {child(), upTo(30) == 0 ? about(1) : upTo(3) == 0 ? 0 : 1};
            case "minutes" -> new long[] {upTo(2) == 0 ? about(100) : about(12)};
            case "on" -> new long[] {about(upTo(1) == 0 ? 200 : 20), about(2)};
            case "then" -> new long[] {mother(), about(upTo(1) == 0 ? 200 : 20), about(1)};
            case "quick" -> new long[] {about(200)};
            case "flung" -> new long[] {child()};
            case "send", "heavy", "weather" -> new long[] {about(60)};
            case "kind" -> new long[] {mother(), about(60)};
            case "firm" -> new long[] {child(), about(60)};
            case "fewest" -> new long[] {about(upTo(5) == 0 ? 9999 : 300)};
            case "deepest" -> new long[] {about(200)};
            case "feed" -> new long[] {random.nextInt(), about(4)};
            case "sheet" -> new long[] {about(3), new int[] {0, 8, 8, 16, 16, 64, 64, 32}[upTo(7)], about(40)};
            case "write" -> new long[] {about(3), about(40), upTo(2) == 0 ? random.nextLong() : about(120)};
            case "copy" -> new long[] {about(3), about(20), about(3), about(20), about(20)};
            case "lays", "book", "count" -> new long[] {about(3)};
            case "read" -> new long[] {about(3), mother()};
            case "status" -> new long[] {about(6)};
            default -> new long[0];
        };
    }

    private long both(String name, long... a) {
        long want = model.call(name, a);
        long got = program(program, name, a);
        told.append(name).append(java.util.Arrays.toString(a)).append(" -> ").append(want).append('\n');
        if (got != want && wrong++ < 3) {
            System.out.println(told + "but the last was answered by " + got);
        }
        return want;
    }

    private void feedText() {
        StringBuilder text = new StringBuilder();
        int items = 1 + upTo(3);
        for (int i = 0; i < items; i++) {
            text.append(i == 0 ? "" : upTo(15) == 0 ? "" : ";").append(item());
        }
        if (upTo(3) == 0) {
            text.insert(upTo(text.length()), WORDS[upTo(WORDS.length - 1)]);
        }
        for (int i = 0; i < text.length(); i++) {
            both("feed", text.charAt(i), 1);
        }
        both("green");
    }

    private String item() {
        String blank = upTo(8) == 0 ? "" : " ";
        return switch (upTo(5)) {
            case 0 -> "child" + blank + about(200) + (upTo(1) == 0 ? blank + "on" : "");
            case 1 -> "rain" + blank + about(4);
            case 2 -> "dry" + blank + about(4);
            case 3 -> "heavy" + blank + about(50);
            default -> WORDS[upTo(5)] + (upTo(1) == 0 ? " secret" + blank + about(99) : "")
                + (upTo(1) == 0 ? blank + "out" : "");
        };
    }

    private void oneCall() {
        String name = upTo(5) == 0 ? DEAR[upTo(DEAR.length - 1)] : CHEAP[upTo(CHEAP.length - 1)];
        if (name.equals("text")) {
            feedText();
        } else if (name.equals("bookread")) {
            both("sheet", 0, upTo(1) == 0 ? 16 : 64, upTo(upTo(2) == 0 ? 40 : 6));
            both("book", 0);
            both("read", 0, mother());
        } else {
            both(name, arguments(name));
        }
    }

    private void allThatCanBeSeen() {
        for (int what = 0; what < 10; what++) {
            both("now", what);
        }
        for (int m = 0; m < model.w.mothers.size(); m++) {
            for (int what = 0; what < 7; what++) {
                both("of", m, what);
            }
        }
        for (int c = 0; c < model.w.children.size(); c++) {
            for (int what = 0; what < 3; what++) {
                both("childOf", c, what);
            }
        }
        for (int which = -1; which < 7; which++) {
            both("status", which);
        }
        both("count", 3);
    }

    private void oneRun() {
        program = new UnsaidRound();
        model = new Model();
        told.setLength(0);
        int start = upTo(3);
        for (int i = 0; i < 2 * start; i++) {
            int m = (int) both("mother", upTo(5));
            both("out", m, upTo(4) == 0 ? 0 : 1);
            both("set", m, 2, upTo(99));
            int c = (int) both("child", upTo(200));
            both("ride", c, 1);
        }
        for (int i = 0; i < CALLS && wrong == 0; i++) {
            oneCall();
        }
        allThatCanBeSeen();
    }

    public static void main(String[] args) {
        ModelTest test = new ModelTest();
        for (int i = 0; i < RUNS && test.wrong == 0; i++) {
            test.oneRun();
        }
        System.out.println(test.wrong == 0 ? "program and model agree" : "program and model differ");
        if (test.wrong != 0) {
            System.exit(1);
        }
    }
}
