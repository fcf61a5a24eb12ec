/**
 * For each promise the ordinary, the edges and the wrong; what is due was worked out by hand.
 * Only farAhead and justHolds differ: their greens were found by trying the program, and there
 * one call is held against another (on).
 */
public final class PromiseTest {
    private static final int BEYOND = -1000000001;
    private static final int FULL = -1000000002;
    private static final int KIND = -1000000003;
    private static final int NONE = -1000000004;
    private static final int STATE = -1000000005;
    private static final int MISSING = -1000000006;
    private static final int SIZE = -1000000007;
    private static final int LOW = Integer.MIN_VALUE;
    private static final int HIGH = Integer.MAX_VALUE;

    private static int wrong = 0;
    private static int promise = 0;
    private static UnsaidRound x;

    private static void begin(int number) {
        promise = number;
        x = new UnsaidRound();
    }

    private static void due(String call, long got, long want) {
        if (got != want) {
            wrong++;
            System.out.println("promise " + promise + ": " + call + " answered " + got + ", due is " + want);
        }
    }

    private static int mother(int kind, int secret, int silent, int out) {
        int m = x.mother(kind);
        x.out(m, out);
        x.set(m, 2, secret);
        x.set(m, 3, silent);
        return m;
    }

    private static int child(int grip) {
        int c = x.child(grip);
        x.ride(c, 1);
        return c;
    }

    private static void type(String text) {
        for (int i = 0; i < text.length(); i++) {
            x.feed(text.charAt(i), 1);
        }
    }

    private static void text(String text, int want) {
        type(text);
        due("green() of '" + text + "'", x.green(), want);
        due("count(2) after '" + text + "'", x.count(2), 0);
    }

    public static void main(String[] args) {
        aNewObject();
        iron();
        rain();
        now();
        mother();
        of();
        keepsOfKinds();
        speaksOfKinds();
        set();
        out();
        turn();
        as();
        child();
        childOf();
        grip();
        ride();
        minutes();
        minutesHeld();
        lastMinute();
        on();
        then();
        quick();
        stands();
        flung();
        farAhead();
        send();
        kind();
        firm();
        heavy();
        fewest();
        weather();
        deepest();
        feed();
        wipe();
        green();
        greenItems();
        greenFaults();
        sheet();
        write();
        copy();
        lays();
        book();
        read();
        image();
        count();
        status();
        System.out.println(wrong == 0 ? "all promises hold" : wrong + " answers are not as due");
        if (wrong != 0) {
            System.exit(1);
        }
    }

    private static void aNewObject() {
        begin(1);
        int[] want = {0, 0, 0, 0, 0, 0, 10, 0, 0, 0};
        for (int what = 0; what < want.length; what++) {
            due("now(" + what + ")", x.now(what), want[what]);
        }
        for (int what = 0; what < 4; what++) {
            due("count(" + what + ")", x.count(what), 0);
        }
        due("status(-1)", x.status(-1), 0);
        due("undo()", x.undo(), NONE);
        due("tear()", x.tear(), 0);
        due("write(0, 0, 1)", x.write(0, 0, 1), MISSING);
        due("rain(0)", x.rain(0), 0);
    }

    private static void iron() {
        begin(2);
        due("iron(0, 50)", x.iron(0, 50), 10);
        due("iron(0, 1)", x.iron(0, 1), 50);
        due("iron(1, 200)", x.iron(1, 200), 0);
        due("iron(1, 0)", x.iron(1, 0), 200);
        int[][] bad = {{0, 0}, {0, 51}, {1, -1}, {1, 201}, {-1, 5}, {2, 5}, {LOW, HIGH}};
        for (int[] b : bad) {
            due("iron(" + b[0] + ", " + b[1] + ")", x.iron(b[0], b[1]), BEYOND);
        }
        due("now(6)", x.now(6), 1);
        due("now(4)", x.now(4), 0);
    }

    private static void rain() {
        begin(3);
        due("rain(31)", x.rain(31), 0);
        due("rain(-1)", x.rain(-1), BEYOND);
        due("rain(32)", x.rain(32), BEYOND);
        due("rain(2)", x.rain(2), 31);
        due("now(3)", x.now(3), 0);
        x.minutes(10);
        due("now(3)", x.now(3), 1);
        x.minutes(10);
        due("now(3)", x.now(3), 0);
    }

    private static void now() {
        begin(4);
        mother(0, 50, 0, 1);
        mother(3, 5, 0, 0);
        mother(3, 5, 0, 1);
        child(200);
        x.child(200);
        child(200);
        due("now(8)", x.now(8), 5);
        due("now(9)", x.now(9), 5);
        due("now(6)", x.now(6), 14);
        due("now(7)", x.now(7), 20);
        x.rain(1);
        due("now(7)", x.now(7), 0);
        x.minutes(39);
        due("now(2)", x.now(2), 0);
        x.minutes(1);
        due("now(2)", x.now(2), 1);
        x.minutes(9);
        due("now(1)", x.now(1), 49);
        due("now(2)", x.now(2), 1);
        x.minutes(1);
        due("now(0)", x.now(0), 50);
        due("now(1)", x.now(1), 0);
        due("now(2)", x.now(2), 0);
        due("now(3)", x.now(3), 1);
        due("now(-1)", x.now(-1), BEYOND);
        due("now(10)", x.now(10), BEYOND);
    }

    private static void mother() {
        begin(5);
        due("mother(-1)", x.mother(-1), BEYOND);
        due("mother(6)", x.mother(6), BEYOND);
        for (int m = 0; m < 8; m++) {
            due("mother(" + m % 6 + ")", x.mother(m % 6), m);
            due("of(" + m + ", 0)", x.of(m, 0), m % 6);
            due("of(" + m + ", 1)", x.of(m, 1), 0);
            due("of(" + m + ", 2)", x.of(m, 2), 10);
            due("of(" + m + ", 3)", x.of(m, 3), 0);
        }
        due("mother(0)", x.mother(0), FULL);
        due("mother(6)", x.mother(6), BEYOND);
        due("count(0)", x.count(0), 8);
    }

    private static void of() {
        begin(6);
        due("of(0, 0)", x.of(0, 0), BEYOND);
        int[] tells = {3, 2, 6, 0, 2, 7};
        for (int k = 0; k < 6; k++) {
            x.mother(k);
            due("of(" + k + ", 6)", x.of(k, 6), tells[k]);
        }
        due("of(5, 7)", x.of(5, 7), BEYOND);
        due("of(5, -1)", x.of(5, -1), BEYOND);
        due("of(6, 0)", x.of(6, 0), BEYOND);
        due("of(-1, 0)", x.of(-1, 0), BEYOND);
    }

    private static void keepsOfKinds() {
        begin(6);
        int[] alone = {19 + 4, 49 + 4, 0, 198, 49 + 4, 0};
        int[] amongTwo = {23, 53, 23, 198, 53, 23 + 6};
        int[] atNight = {23, 53, 23, 198, 63, 29};
        for (int k = 0; k < 6; k++) {
            mother(k, 99, 4, 0);
            due("keeps of " + k + " alone", x.of(k, 4), alone[k]);
        }
        x.out(x.mother(3), 1);
        x.out(x.mother(3), 1);
        for (int k = 0; k < 6; k++) {
            due("keeps of " + k + " among two", x.of(k, 4), amongTwo[k]);
        }
        x.rain(31);
        x.minutes(40);
        for (int k = 0; k < 6; k++) {
            due("keeps of " + k + " at night, in rain", x.of(k, 4), atNight[k]);
        }
        x.rain(0);
        due("push of the two at night", x.now(7), 40);
        x.out(5, 1);
        due("push with the bride", x.now(7), 40 + 19 + 6);
    }

    private static void speaksOfKinds() {
        begin(6);
        int[] from = {9, 15, 1000, 1000, 15, 1000};
        int[] fromAmong = {9, 15, 3, 1000, 15, 3};
        int[] fromAtNight = {9, 15, 3, 1000, 1000, 3};
        for (int k = 0; k < 6; k++) {
            x.mother(k);
        }
        speaksFrom("alone", from);
        x.out(x.mother(3), 1);
        speaksFrom("among", fromAmong);
        x.minutes(40);
        speaksFrom("at night", fromAtNight);
        x.out(6, 0);
        x.out(2, 1);
        x.set(2, 3, 500);
        due("gossip alone", x.of(2, 5), 0);
        x.minutes(1);
        due("gossip alone is silent", x.of(2, 3), 501);
        x.out(2, 0);
        x.set(5, 3, 0);
        x.iron(1, 100);
        due("bride at 100", x.of(5, 5), 0);
        x.iron(1, 101);
        due("bride at 101", x.of(5, 5), 1);
        due("gossip at 101", x.of(2, 5), 0);
    }

    private static void speaksFrom(String when, int[] from) {
        for (int k = 0; k < 6; k++) {
            for (int t : new int[] {0, 2, 3, 8, 9, 14, 15, 999}) {
                x.set(k, 3, t);
                due("kind " + k + " speaks " + when + " at " + t, x.of(k, 5), t >= from[k] ? 1 : 0);
            }
        }
    }

    private static void set() {
        begin(7);
        x.mother(0);
        due("set(0, 2, 99)", x.set(0, 2, 99), 10);
        due("set(0, 2, 0)", x.set(0, 2, 0), 99);
        due("set(0, 3, 999)", x.set(0, 3, 999), 0);
        due("set(0, 3, 0)", x.set(0, 3, 0), 999);
        int[][] bad = {{0, 2, 100}, {0, 2, -1}, {0, 3, 1000}, {0, 3, -1}, {0, 1, 0}, {0, 4, 0}, {1, 2, 0}, {-1, 2, 0}};
        for (int[] b : bad) {
            due("set(" + b[0] + ", " + b[1] + ", " + b[2] + ")", x.set(b[0], b[1], b[2]), BEYOND);
        }
        due("of(0, 2)", x.of(0, 2), 0);
        due("of(0, 3)", x.of(0, 3), 0);
    }

    private static void out() {
        begin(8);
        x.mother(0);
        x.set(0, 3, 7);
        due("out(0, 1)", x.out(0, 1), 0);
        due("of(0, 3)", x.of(0, 3), 0);
        x.set(0, 3, 7);
        due("out(0, 1)", x.out(0, 1), 1);
        due("of(0, 3)", x.of(0, 3), 0);
        x.set(0, 3, 7);
        due("out(0, 0)", x.out(0, 0), 1);
        due("of(0, 3)", x.of(0, 3), 0);
        due("of(0, 1)", x.of(0, 1), 0);
        x.set(0, 3, 7);
        due("out(0, 0)", x.out(0, 0), 0);
        due("of(0, 3)", x.of(0, 3), 0);
        x.set(0, 3, 7);
        due("out(0, 2)", x.out(0, 2), BEYOND);
        due("out(0, -1)", x.out(0, -1), BEYOND);
        due("out(1, 1)", x.out(1, 1), BEYOND);
        due("out(-1, 1)", x.out(-1, 1), BEYOND);
        due("of(0, 3)", x.of(0, 3), 7);
    }

    private static void turn() {
        begin(9);
        mother(0, 42, 3, 1);
        for (int k = 1; k < 6; k++) {
            due("turn(0, " + k + ")", x.turn(0, k), k - 1);
        }
        due("turn(0, 6)", x.turn(0, 6), BEYOND);
        due("turn(0, -1)", x.turn(0, -1), BEYOND);
        due("turn(1, 0)", x.turn(1, 0), BEYOND);
        due("turn(-1, 0)", x.turn(-1, 0), BEYOND);
        due("of(0, 0)", x.of(0, 0), 5);
        due("of(0, 1)", x.of(0, 1), 1);
        due("of(0, 2)", x.of(0, 2), 42);
        due("of(0, 3)", x.of(0, 3), 3);
    }

    private static void as() {
        begin(10);
        String[] are = {"0", "01", "02", "03", "014", "025"};
        for (int m = 0; m < 6; m++) {
            mother(m, 20 + m, 0, 0);
            for (int k = 0; k < 6; k++) {
                boolean is = are[m].indexOf('0' + k) >= 0;
                due("as(" + m + ", " + k + ")", x.as(m, k), is ? 20 + m : KIND);
            }
        }
        due("as(0, 6)", x.as(0, 6), BEYOND);
        due("as(0, -1)", x.as(0, -1), BEYOND);
        due("as(6, 0)", x.as(6, 0), BEYOND);
        due("as(-1, 6)", x.as(-1, 6), BEYOND);
    }

    private static void child() {
        begin(11);
        due("child(-1)", x.child(-1), BEYOND);
        due("child(201)", x.child(201), BEYOND);
        for (int c = 0; c < 6; c++) {
            due("child(" + 40 * c + ")", x.child(40 * c), c);
            due("childOf(" + c + ", 0)", x.childOf(c, 0), 40 * c);
            due("childOf(" + c + ", 1)", x.childOf(c, 1), 0);
            due("childOf(" + c + ", 2)", x.childOf(c, 2), 0);
        }
        due("child(0)", x.child(0), FULL);
        due("child(201)", x.child(201), BEYOND);
        due("count(1)", x.count(1), 6);
    }

    private static void childOf() {
        begin(12);
        due("childOf(0, 0)", x.childOf(0, 0), BEYOND);
        child(5);
        due("childOf(0, 0)", x.childOf(0, 0), 5);
        due("childOf(0, 1)", x.childOf(0, 1), 1);
        x.iron(1, 50);
        x.minutes(1);
        due("childOf(0, 1)", x.childOf(0, 1), 0);
        due("childOf(0, 2)", x.childOf(0, 2), 1);
        due("childOf(0, 3)", x.childOf(0, 3), BEYOND);
        due("childOf(0, -1)", x.childOf(0, -1), BEYOND);
        due("childOf(1, 0)", x.childOf(1, 0), BEYOND);
        due("childOf(-1, 0)", x.childOf(-1, 0), BEYOND);
    }

    private static void grip() {
        begin(13);
        x.child(60);
        due("grip(0, 200)", x.grip(0, 200), 60);
        due("grip(0, 0)", x.grip(0, 0), 200);
        due("grip(0, 201)", x.grip(0, 201), BEYOND);
        due("grip(0, -1)", x.grip(0, -1), BEYOND);
        due("grip(1, 5)", x.grip(1, 5), BEYOND);
        due("grip(-1, 5)", x.grip(-1, 5), BEYOND);
        due("childOf(0, 0)", x.childOf(0, 0), 0);
    }

    private static void ride() {
        begin(14);
        x.child(60);
        x.child(60);
        due("ride(1, 1)", x.ride(1, 1), 1);
        due("ride(1, 1)", x.ride(1, 1), 1);
        due("ride(0, 1)", x.ride(0, 1), 2);
        due("ride(1, 0)", x.ride(1, 0), 1);
        due("ride(0, 2)", x.ride(0, 2), BEYOND);
        due("ride(0, -1)", x.ride(0, -1), BEYOND);
        due("ride(2, 1)", x.ride(2, 1), BEYOND);
        due("ride(-1, 1)", x.ride(-1, 1), BEYOND);
        due("now(9)", x.now(9), 1);
    }

    private static void minutes() {
        begin(15);
        due("minutes(0)", x.minutes(0), BEYOND);
        due("minutes(101)", x.minutes(101), BEYOND);
        due("minutes(100)", x.minutes(100), 0);
        due("now(0)", x.now(0), 100);
        // Push 40, weight 12: 3 more, 1 less; the second minute starts from 2.
        mother(3, 20, 0, 1);
        child(200);
        due("minutes(1)", x.minutes(1), 2);
        due("minutes(1)", x.minutes(1), 4);
        due("now(5)", x.now(5), 6);
        // A tenth of 25 is 2, cut: 25 + 3 - 2.
        x.iron(1, 25);
        due("minutes(1)", x.minutes(1), 26);
        due("of(0, 3)", x.of(0, 3), 3);
        // The weight is that before the flinging: 34 + 3 - 3, and 40 / 10 from then on.
        x.iron(1, 34);
        x.grip(0, 33);
        due("minutes(1)", x.minutes(1), 34);
        due("childOf(0, 0)", x.childOf(0, 0), 33);
        due("childOf(0, 1)", x.childOf(0, 1), 0);
        due("minutes(1)", x.minutes(1), 35);
        // A grip of 31 holds 31 and is 30 after it, which holds 30 and stays.
        begin(15);
        child(31);
        x.iron(1, 34);
        due("minutes(1)", x.minutes(1), 31);
        due("childOf(0, 0)", x.childOf(0, 0), 30);
        x.iron(1, 33);
        due("minutes(1)", x.minutes(1), 30);
        due("childOf(0, 0)", x.childOf(0, 0), 30);
        due("childOf(0, 1)", x.childOf(0, 1), 1);
        speaking();
    }

    private static void speaking() {
        begin(15);
        mother(0, 2, 9, 1);
        mother(2, 50, 3, 1);
        mother(5, 50, 0, 1);
        mother(4, 50, 15, 1);
        mother(1, 50, 15, 0);
        // 9 + 13 + (10 + 9) + (25 + 15) = 81 by 10: 8 more, and 11 of 110 less, is 107.
        x.iron(1, 110);
        due("minutes(1)", x.minutes(1), 107);
        int[][] want = {{0, 0}, {44, 0}, {43, 0}, {48, 0}, {50, 15}};
        for (int m = 0; m < want.length; m++) {
            due("of(" + m + ", 2)", x.of(m, 2), want[m][0]);
            due("of(" + m + ", 3)", x.of(m, 3), want[m][1]);
        }
        // 112 goes down to 101, so the bride speaks; 111 to 100, so she doesn't.
        begin(15);
        mother(5, 50, 0, 1);
        x.iron(1, 112);
        due("minutes(1)", x.minutes(1), 101);
        due("of(0, 2)", x.of(0, 2), 43);
        x.iron(1, 111);
        due("minutes(1)", x.minutes(1), 100);
        due("of(0, 2)", x.of(0, 2), 43);
        due("of(0, 3)", x.of(0, 3), 1);
        // It is night in the minute 49 itself, so a gran speaks only in the one after it.
        begin(15);
        x.minutes(49);
        mother(4, 50, 15, 1);
        x.minutes(1);
        due("of(0, 3)", x.of(0, 3), 16);
        x.minutes(1);
        due("of(0, 3)", x.of(0, 3), 0);
        due("of(0, 2)", x.of(0, 2), 48);
        // In rain nobody turns it, but they are silent and speak as ever.
        begin(15);
        mother(0, 50, 8, 1);
        x.rain(31);
        due("minutes(2)", x.minutes(2), 0);
        due("of(0, 2)", x.of(0, 2), 47);
    }

    private static void minutesHeld() {
        begin(15);
        mother(3, 99, 998, 1);
        x.iron(0, 1);
        x.iron(1, 200);
        due("minutes(1)", x.minutes(1), 200);
        due("of(0, 3)", x.of(0, 3), 999);
        for (int i = 0; i < 49; i++) {
            x.minutes(100);
        }
        due("now(5)", x.now(5), 4901 * 200);
        due("of(0, 3)", x.of(0, 3), 999);
        x.minutes(98);
        due("now(5)", x.now(5), 999800);
        due("on(1, 1)", x.on(1, 1), 999999);
        x.minutes(2);
        due("now(5)", x.now(5), 999999);
        child(0);
        x.iron(1, 0);
        x.out(0, 0);
        due("minutes(1)", x.minutes(1), 0);
        due("childOf(0, 1)", x.childOf(0, 1), 1);
    }

    /** No run of 512 calls comes here; but STATE can't be seen otherwise. */
    private static void lastMinute() {
        begin(15);
        for (int i = 0; i < 999; i++) {
            x.minutes(100);
        }
        due("minutes(100)", x.minutes(100), STATE);
        due("minutes(101)", x.minutes(101), BEYOND);
        due("now(0)", x.now(0), 99900);
        due("minutes(99)", x.minutes(99), 0);
        due("now(0)", x.now(0), 99999);
        due("minutes(1)", x.minutes(1), STATE);
        due("status(4)", x.status(4), 2);
    }

    private static void on() {
        begin(16);
        mother(3, 20, 0, 1);
        child(5);
        due("on(0, 0)", x.on(0, 0), 0);
        due("on(0, 1)", x.on(0, 1), 0);
        due("on(0, 2)", x.on(0, 2), 1);
        due("on(2, 0)", x.on(2, 0), 4);
        due("on(2, 1)", x.on(2, 1), 6);
        due("on(2, 2)", x.on(2, 2), 1);
        due("on(3, 2)", x.on(3, 2), 0);
        due("on(4, 0)", x.on(4, 0), 9);
        due("on(200, 0)", x.on(200, 0), 40);
        int[][] bad = {{-1, 0}, {201, 0}, {0, -1}, {0, 3}};
        for (int[] b : bad) {
            due("on(" + b[0] + ", " + b[1] + ")", x.on(b[0], b[1]), BEYOND);
        }
        due("now(0)", x.now(0), 0);
        due("now(5)", x.now(5), 0);
        due("now(9)", x.now(9), 1);
    }

    private static void then() {
        begin(17);
        mother(0, 20, 0, 1);
        mother(0, 20, 5, 0);
        due("then(0, 0, 0)", x.then(0, 0, 0), 20);
        due("then(0, 9, 1)", x.then(0, 9, 1), 9);
        due("then(0, 9, 0)", x.then(0, 9, 0), 20);
        due("then(0, 10, 0)", x.then(0, 10, 0), 17);
        due("then(0, 10, 1)", x.then(0, 10, 1), 0);
        due("then(0, 200, 0)", x.then(0, 200, 0), 0);
        due("then(1, 200, 1)", x.then(1, 200, 1), 5);
        int[][] bad = {{2, 0, 0}, {-1, 0, 0}, {0, -1, 0}, {0, 201, 0}, {0, 0, 2}, {0, 0, -1}};
        for (int[] b : bad) {
            due("then(" + b[0] + ", " + b[1] + ", " + b[2] + ")", x.then(b[0], b[1], b[2]), BEYOND);
        }
        due("of(0, 3)", x.of(0, 3), 0);
    }

    private static void quick() {
        begin(18);
        due("quick(0)", x.quick(0), 0);
        due("quick(1)", x.quick(1), NONE);
        x.iron(1, 50);
        due("quick(50)", x.quick(50), 0);
        due("quick(51)", x.quick(51), NONE);
        x.iron(1, 200);
        due("quick(200)", x.quick(200), 0);
        x.iron(1, 0);
        x.iron(0, 40);
        mother(3, 40, 0, 1);
        // One more a minute until 20, where a tenth is 2 as well.
        due("quick(1)", x.quick(1), 1);
        due("quick(20)", x.quick(20), 20);
        due("quick(21)", x.quick(21), NONE);
        due("quick(-1)", x.quick(-1), BEYOND);
        due("quick(201)", x.quick(201), BEYOND);
        due("now(0)", x.now(0), 0);
    }

    private static void stands() {
        begin(19);
        due("stands()", x.stands(), 0);
        x.iron(1, 19);
        due("stands()", x.stands(), 19);
        x.iron(1, 20);
        due("stands()", x.stands(), 19);
        x.iron(1, 21);
        due("stands()", x.stands(), 20);
        mother(3, 20, 0, 1);
        due("stands()", x.stands(), NONE);
        // Up to 36 in the ten dry minutes, then seven down to 19, and 19 more.
        x.rain(30);
        due("stands()", x.stands(), 36);
    }

    private static void flung() {
        begin(20);
        due("flung(0)", x.flung(0), BEYOND);
        child(3);
        x.child(0);
        due("flung(0)", x.flung(0), NONE);
        mother(3, 20, 0, 1);
        // 2, 4: the grip of 3 goes at 4; the one beside it isn't on.
        due("flung(0)", x.flung(0), 2);
        due("flung(1)", x.flung(1), NONE);
        due("flung(2)", x.flung(2), BEYOND);
        due("flung(-1)", x.flung(-1), BEYOND);
        x.iron(1, 200);
        due("flung(0)", x.flung(0), 1);
        due("childOf(0, 2)", x.childOf(0, 2), 0);
    }

    private static void begin(int number, int kind, int secret, int silent, int heavy, int speed) {
        begin(number);
        mother(kind, secret, silent, 1);
        x.iron(0, heavy);
        x.iron(1, speed);
    }

    /** The 200th minute is the last that is looked at: what comes in the 201st is NONE. */
    private static void farAhead() {
        begin(18, 3, 35, 0, 5, 83);
        x.rain(11);
        child(162);
        int quicker = 0;
        for (int n = 0; n < 200; n++) {
            quicker += x.on(n, 0) >= 105 ? 1 : 0;
        }
        due("minutes before the 200th with 105", quicker, 0);
        due("on(200, 0) of 105 or more", x.on(200, 0) >= 105 ? 1 : 0, 1);
        due("quick(105)", x.quick(105), 200);

        begin(19, 0, 70, 0, 7, 128);
        child(37);
        int standing = 0;
        for (int n = 0; n <= 200; n++) {
            standing += x.on(n, 0) == 0 ? 1 : 0;
        }
        due("minutes up to the 200th that it stands", standing, 0);
        due("stands()", x.stands(), NONE);
        x.minutes(1);
        due("stands()", x.stands(), 200);
        due("on(200, 0)", x.on(200, 0), 0);

        begin(20, 3, 57, 0, 18, 84);
        x.rain(10);
        child(174);
        due("on(200, 2)", x.on(200, 2), 1);
        due("flung(0)", x.flung(0), NONE);
        x.minutes(1);
        due("on(199, 2)", x.on(199, 2), 1);
        due("on(200, 2)", x.on(200, 2), 0);
        due("flung(0)", x.flung(0), 200);
    }

    private static void send() {
        begin(21);
        due("send(1)", x.send(1), NONE);
        due("send(0)", x.send(0), BEYOND);
        due("send(61)", x.send(61), BEYOND);
        mother(3, 99, 0, 0);
        due("send(60)", x.send(60), NONE);
        mother(3, 30, 0, 1);
        mother(3, 40, 0, 1);
        mother(3, 40, 0, 1);
        due("send(1)", x.send(1), 2);
        due("send(60)", x.send(60), 2);
        x.rain(31);
        due("send(60)", x.send(60), 1);
        x.rain(0);
        due("send(60)", x.send(60), 2);
        x.set(1, 2, 41);
        due("send(60)", x.send(60), 1);
        begin(21);
        mother(3, 40, 0, 1);
        mother(3, 30, 0, 1);
        due("send(1)", x.send(1), 0);
        // Without its one companion a gossip keeps nothing back: 60 alone is less than 40.
        begin(21);
        mother(2, 99, 41, 1);
        mother(3, 20, 0, 1);
        due("send(1)", x.send(1), 1);
        due("now(8)", x.now(8), 3);
    }

    private static void kind() {
        begin(22);
        due("kind(0, 1)", x.kind(0, 1), BEYOND);
        mother(0, 99, 0, 0);
        due("kind(0, 60)", x.kind(0, 60), 0);
        x.out(0, 1);
        due("kind(0, 60)", x.kind(0, 60), 3);
        // No secret, 30 silent: mother and aunt both 30 by 10; the least of the two.
        x.set(0, 2, 0);
        x.set(0, 3, 30);
        due("kind(0, 1)", x.kind(0, 1), 0);
        // With one other out 3 more for a bride: 33 and 7 by 10 is 4, all others 3.
        mother(3, 3, 0, 1);
        x.set(0, 3, 31);
        due("kind(0, 1)", x.kind(0, 1), 5);
        due("of(0, 0)", x.of(0, 0), 0);
        due("kind(0, 0)", x.kind(0, 0), BEYOND);
        due("kind(0, 61)", x.kind(0, 61), BEYOND);
        due("kind(2, 1)", x.kind(2, 1), BEYOND);
        due("kind(-1, 1)", x.kind(-1, 1), BEYOND);
    }

    private static void firm() {
        begin(23);
        due("firm(0, 1)", x.firm(0, 1), BEYOND);
        x.child(60);
        x.iron(1, 200);
        due("firm(0, 60)", x.firm(0, 60), 0);
        x.ride(0, 1);
        due("firm(0, 1)", x.firm(0, 1), 180);
        due("firm(0, 60)", x.firm(0, 60), 180);
        due("childOf(0, 0)", x.childOf(0, 0), 60);
        due("firm(0, 0)", x.firm(0, 0), BEYOND);
        due("firm(0, 61)", x.firm(0, 61), BEYOND);
        due("firm(1, 1)", x.firm(1, 1), BEYOND);
        due("firm(-1, 1)", x.firm(-1, 1), BEYOND);
        // 200 all along: a grip of 200 holds it once and is 199 then.
        mother(3, 99, 0, 1);
        x.iron(0, 1);
        due("firm(0, 1)", x.firm(0, 1), 200);
        due("firm(0, 2)", x.firm(0, 2), NONE);
        // 42, 41, 40: each takes 1 of the grip, and less than that is lost from the speed.
        begin(23);
        child(0);
        mother(3, 20, 0, 1);
        x.iron(1, 43);
        due("firm(0, 1)", x.firm(0, 1), 42);
        due("firm(0, 3)", x.firm(0, 3), 42);
        due("firm(0, 6)", x.firm(0, 6), 44);
        for (int speed = 0; speed <= 200; speed += 7) {
            justHolds(speed);
        }
    }

    private static void justHolds(int speed) {
        begin(23, 0, 99, 0, 5, speed);
        child(0);
        int firm = x.firm(0, 20);
        x.grip(0, firm);
        due("on(20, 2) from " + speed, x.on(20, 2), 1);
        if (firm > 0) {
            x.grip(0, firm - 1);
            due("on(20, 2) from " + speed + ", less firm", x.on(20, 2), 0);
        }
    }

    private static void heavy() {
        begin(24);
        due("heavy(1)", x.heavy(1), 1);
        due("heavy(0)", x.heavy(0), BEYOND);
        due("heavy(61)", x.heavy(61), BEYOND);
        child(10);
        mother(3, 60, 0, 1);
        // 120 by HEAVY and 2, 1 less, is to be 10 at most: by 11 it is 10, 1 less 9; by 10 it is 12.
        due("heavy(1)", x.heavy(1), 9);
        due("now(6)", x.now(6), 12);
        // 156 by 40 is 3, by 39 it is 4; by 52, the most there is, still 3, but 154 by 52 is 2.
        x.set(0, 2, 77);
        x.grip(0, 2);
        x.mother(0);
        x.out(1, 1);
        due("now(7)", x.now(7), 156);
        due("heavy(1)", x.heavy(1), 38);
        x.grip(0, 1);
        due("heavy(1)", x.heavy(1), NONE);
        x.out(1, 0);
        due("heavy(1)", x.heavy(1), 50);
        x.iron(1, 100);
        due("heavy(1)", x.heavy(1), NONE);
        x.ride(0, 0);
        due("heavy(60)", x.heavy(60), 1);
        due("childOf(0, 2)", x.childOf(0, 2), 0);
    }

    private static void fewest() {
        begin(25);
        due("fewest(0)", x.fewest(0), 0);
        due("fewest(1)", x.fewest(1), NONE);
        due("fewest(-1)", x.fewest(-1), BEYOND);
        due("fewest(10000)", x.fewest(10000), BEYOND);
        due("fewest(9999)", x.fewest(9999), NONE);
        mother(3, 5, 0, 0);
        mother(3, 5, 0, 1);
        mother(3, 10, 0, 0);
        mother(3, 15, 0, 0);
        mother(3, 10, 0, 0);
        due("fewest(10)", x.fewest(10), 0);
        due("fewest(11)", x.fewest(11), 1);
        due("fewest(21)", x.fewest(21), 4);
        due("fewest(40)", x.fewest(40), 8);
        due("fewest(41)", x.fewest(41), 9);
        due("fewest(51)", x.fewest(51), 12);
        due("fewest(90)", x.fewest(90), 29);
        due("fewest(91)", x.fewest(91), NONE);
        due("now(8)", x.now(8), 2);
        x.rain(1);
        due("fewest(1)", x.fewest(1), NONE);
        due("fewest(0)", x.fewest(0), 0);
        begin(25);
        for (int m = 0; m < 8; m++) {
            mother(3, 1, 0, 0);
        }
        due("fewest(14)", x.fewest(14), 127);
        due("fewest(15)", x.fewest(15), 255);
        due("fewest(16)", x.fewest(16), 255);
        due("fewest(17)", x.fewest(17), NONE);
        // One who comes out begins her silence then, whatever it was inside.
        begin(25);
        mother(0, 50, 900, 0);
        mother(0, 55, 0, 0);
        due("fewest(11)", x.fewest(11), 2);
        due("fewest(22)", x.fewest(22), NONE);
        due("of(0, 3)", x.of(0, 3), 900);
    }

    private static void weather() {
        begin(26);
        due("weather(60)", x.weather(60), 0);
        due("weather(0)", x.weather(0), BEYOND);
        due("weather(61)", x.weather(61), BEYOND);
        x.minutes(15);
        mother(3, 50, 0, 1);
        due("weather(1)", x.weather(1), 1);
        due("weather(10)", x.weather(10), 1);
        // Dry in part 2 alone: there 10 minutes are lost, in part 3 10 won, but later.
        x.rain(27);
        due("weather(5)", x.weather(5), 1);
        x.minutes(5);
        due("weather(20)", x.weather(20), 2);
        due("rain(0)", x.rain(0), 27);
    }

    private static void deepest() {
        begin(27);
        due("deepest(0)", x.deepest(0), NONE);
        due("deepest(-1)", x.deepest(-1), BEYOND);
        due("deepest(201)", x.deepest(201), BEYOND);
        mother(3, 99, 0, 0);
        due("deepest(200)", x.deepest(200), NONE);
        mother(3, 6, 0, 1);
        mother(0, 50, 0, 1);
        mother(0, 50, 0, 1);
        // 12 against 10, 11, 12, 13: the mothers come up to it after 2 and pass it after 3.
        due("deepest(0)", x.deepest(0), 1);
        due("deepest(2)", x.deepest(2), 1);
        due("deepest(3)", x.deepest(3), 2);
        x.rain(31);
        due("deepest(3)", x.deepest(3), 2);
        // Ten more for a gran when it has become night there.
        begin(27);
        mother(3, 20, 0, 1);
        mother(4, 50, 0, 1);
        x.minutes(30);
        x.out(1, 1);
        x.set(1, 2, 48);
        due("deepest(9)", x.deepest(9), 0);
        due("deepest(10)", x.deepest(10), 1);
    }

    private static void feed() {
        begin(28);
        due("feed(0, 0)", x.feed(0, 0), BEYOND);
        due("feed(0, 5)", x.feed(0, 5), BEYOND);
        due("feed(0, -1)", x.feed(0, -1), BEYOND);
        // "mrs;" and "dry0": the highest of the n lowest comes first.
        due("feed(.., 4)", x.feed(0x6d72733b, 4), 4);
        due("feed(.., 3)", x.feed(0xff647279, 3), 7);
        due("feed(.., 1)", x.feed(0x7a7a7a30, 1), 8);
        due("green()", x.green(), 2);
        due("of(0, 0)", x.of(0, 0), 3);
        for (int i = 1; i <= 29; i++) {
            due("feed(-1, 4)", x.feed(-1, 4), 4 * i);
        }
        due("feed(-1, 3)", x.feed(-1, 3), 119);
        due("feed(-1, 2)", x.feed(-1, 2), FULL);
        due("feed(-1, 5)", x.feed(-1, 5), BEYOND);
        due("count(2)", x.count(2), 119);
        due("feed(-1, 1)", x.feed(-1, 1), 120);
        due("feed(-1, 1)", x.feed(-1, 1), FULL);
        due("green()", x.green(), -1);
    }

    private static void wipe() {
        begin(29);
        due("wipe()", x.wipe(), 0);
        type("mother");
        due("wipe()", x.wipe(), 6);
        due("wipe()", x.wipe(), 0);
        text("aunt", 1);
        due("count(0)", x.count(0), 1);
    }

    private static void green() {
        begin(30);
        text("mother; aunt secret 7; gossip out; mrs secret 99 out;gran;bride secret0out", 6);
        int[][] want = {{0, 0, 10}, {1, 0, 7}, {2, 1, 10}, {3, 1, 99}, {4, 0, 10}, {5, 1, 0}};
        for (int m = 0; m < want.length; m++) {
            for (int what = 0; what < 3; what++) {
                due("of(" + m + ", " + what + ")", x.of(m, what), want[m][what]);
            }
            due("of(" + m + ", 3)", x.of(m, 3), 0);
        }
        text("child 200 on;child 0;child 007on", 3);
        due("now(9)", x.now(9), 5);
        due("childOf(0, 0)", x.childOf(0, 0), 200);
        due("childOf(1, 0)", x.childOf(1, 0), 0);
        due("childOf(2, 0)", x.childOf(2, 0), 7);
        text("rain 4;rain 0;rain 4;dry 0;dry 1", 5);
        due("rain(6)", x.rain(6), 16);
        text("dry 1;rain 0", 2);
        due("rain(0)", x.rain(0), 5);
        text("rain 4;rain 3;dry 4", 3);
        due("rain(0)", x.rain(0), 8);
        text("heavy 1", 1);
        due("iron(0, 5)", x.iron(0, 5), 1);
        text("heavy 50;heavy 49", 2);
        due("iron(0, 5)", x.iron(0, 5), 49);
        due("status(-1)", x.status(-1), 0);
    }

    private static void greenItems() {
        begin(30);
        // Full benches: what is there already is counted, too.
        text("mrs;mrs;mrs;mrs;mrs;mrs;mrs;mrs", 8);
        text("heavy 3;mrs", -1 - 8);
        due("now(6)", x.now(6), 10);
        text("child 1;child 1;child 1;child 1;child 1", 5);
        text("child 1;child 1", -1 - 8);
        due("count(1)", x.count(1), 5);
        text("child 1", 1);
        text(" child 201", -1 - 1);
        begin(30);
        text("mrs;mrs;mrs;mrs;mrs;mrs;mrs;mrs;mrs;", -1 - 32);
        due("count(0)", x.count(0), 0);
        begin(30);
        text("  mother  secret  5  out  ;  heavy  7  ", 2);
        due("of(0, 2)", x.of(0, 2), 5);
        due("now(6)", x.now(6), 7);
    }

    private static void greenFaults() {
        begin(30);
        x.mother(0);
        text("", -1);
        text("   ", -1 - 3);
        text(";", -1);
        text("mother;", -1 - 7);
        text("mother; ", -1 - 8);
        text("mother;;", -1 - 7);
        text("motherx", -1);
        text("motherz", -1);
        text("nother", -1);
        text("mothe", -1);
        text("Mother", -1);
        text("mother X", -1 - 7);
        text("mother\tout", -1 - 6);
        text("mother aunt", -1 - 7);
        text("mother 5", -1 - 7);
        text("mother secret", -1 - 13);
        text("mother secret out", -1 - 14);
        text("mother secret 100", -1 - 14);
        text("mother secret 99 secret 99", -1 - 17);
        text("mother out secret 9", -1 - 11);
        text("mother out out", -1 - 11);
        text("mother on", -1 - 7);
        text("child", -1 - 5);
        text("child on", -1 - 6);
        text("child 201", -1 - 6);
        text("child 5 out", -1 - 8);
        text("child 99999999999999999999", -1 - 6);
        text("child 4294967297", -1 - 6);
        text("child -1", -1 - 6);
        text("rain", -1 - 4);
        text("rain 5", -1 - 5);
        text("dry", -1 - 3);
        text("dry 5", -1 - 4);
        text("dry x", -1 - 4);
        text("heavy 0", -1 - 6);
        text("heavy 51", -1 - 6);
        text("heavy", -1 - 5);
        text("heavy;", -1 - 5);
        text("heavy 5 5", -1 - 8);
        text("5", -1);
        text("out", -1);
        text("secret 5", -1);
        text("aunt;gran;rain 1;child 5 on;heavy 9;nobody", -1 - 36);
        due("count(0)", x.count(0), 1);
        due("count(1)", x.count(1), 0);
        due("now(6)", x.now(6), 10);
        due("rain(0)", x.rain(0), 0);
        due("status(-1)", x.status(-1), 0);
    }

    private static void sheet() {
        begin(31);
        due("sheet(0, 8, 40)", x.sheet(0, 8, 40), 40);
        due("sheet(3, 64, 0)", x.sheet(3, 64, 0), 0);
        x.write(0, 39, 5);
        due("sheet(0, 16, 41)", x.sheet(0, 16, 41), BEYOND);
        due("write(0, 39, 6)", x.write(0, 39, 6), 5);
        due("sheet(0, 16, 40)", x.sheet(0, 16, 40), 40);
        due("write(0, 39, 6)", x.write(0, 39, 6), 0);
        due("sheet(0, 0, 5)", x.sheet(0, 0, 5), 0);
        due("write(0, 0, 6)", x.write(0, 0, 6), MISSING);
        due("sheet(4, 8, -1)", x.sheet(4, 8, -1), BEYOND);
        due("sheet(-1, 8, 1)", x.sheet(-1, 8, 1), BEYOND);
        due("sheet(0, 32, -1)", x.sheet(0, 32, -1), BEYOND);
        due("sheet(0, -8, 1)", x.sheet(0, -8, 1), BEYOND);
        due("sheet(0, 8, -1)", x.sheet(0, 8, -1), SIZE);
        due("sheet(0, 0, -1)", x.sheet(0, 0, -1), SIZE);
        due("sheet(0, 0, 41)", x.sheet(0, 0, 41), BEYOND);
        due("sheet(0, 8, LOW)", x.sheet(0, 8, LOW), SIZE);
        due("sheet(0, 8, HIGH)", x.sheet(0, 8, HIGH), BEYOND);
        due("write(0, 0, 6)", x.write(0, 0, 6), MISSING);
        due("write(3, 0, 6)", x.write(3, 0, 6), BEYOND);
    }

    private static void write() {
        begin(32);
        x.sheet(0, 8, 2);
        x.sheet(1, 16, 2);
        x.sheet(2, 64, 2);
        due("write(0, 1, 200)", x.write(0, 1, 200), 0);
        due("write(0, 1, -129)", x.write(0, 1, -129), -56);
        due("write(0, 1, 0)", x.write(0, 1, 0), 127);
        due("write(1, 0, 40000)", x.write(1, 0, 40000), 0);
        due("write(1, 0, 65537)", x.write(1, 0, 65537), -25536);
        due("write(1, 0, 0)", x.write(1, 0, 0), 1);
        due("write(2, 1, least)", x.write(2, 1, Long.MIN_VALUE), 0);
        due("write(2, 1, BEYOND)", x.write(2, 1, BEYOND), Long.MIN_VALUE);
        due("write(2, 1, 0)", x.write(2, 1, 0), BEYOND);
        due("status(-1)", x.status(-1), 0);
        due("write(4, 0, 1)", x.write(4, 0, 1), BEYOND);
        due("write(-1, 0, 1)", x.write(-1, 0, 1), BEYOND);
        due("write(3, 99, 1)", x.write(3, 99, 1), MISSING);
        due("write(0, 2, 1)", x.write(0, 2, 1), BEYOND);
        due("write(0, -1, 1)", x.write(0, -1, 1), BEYOND);
        due("status(0)", x.status(0), 4);
        due("status(5)", x.status(5), 1);
    }

    private static void copy() {
        begin(33);
        x.sheet(0, 16, 5);
        x.sheet(1, 16, 3);
        x.sheet(2, 8, 5);
        for (int i = 0; i < 5; i++) {
            x.write(0, i, 10 + i);
        }
        due("copy(0, 2, 1, 0, 3)", x.copy(0, 2, 1, 0, 3), 3);
        for (int i = 0; i < 3; i++) {
            due("write(1, " + i + ", 0)", x.write(1, i, 0), 12 + i);
        }
        due("copy(0, 0, 0, 1, 4)", x.copy(0, 0, 0, 1, 4), 4);
        int[] up = {10, 10, 11, 12, 13};
        for (int i = 0; i < 5; i++) {
            due("write(0, " + i + ", ..)", x.write(0, i, 20 + i), up[i]);
        }
        due("copy(0, 1, 0, 0, 4)", x.copy(0, 1, 0, 0, 4), 4);
        int[] down = {21, 22, 23, 24, 24};
        for (int i = 0; i < 5; i++) {
            due("write(0, " + i + ", ..)", x.write(0, i, 0), down[i]);
        }
        due("copy(0, 5, 1, 3, 0)", x.copy(0, 5, 1, 3, 0), 0);
        int[][] bad = {
            {4, 0, 0, 0, 0, BEYOND}, {0, 0, 4, 0, 0, BEYOND}, {3, 0, 4, 0, 0, BEYOND}, {-1, 0, 3, 0, 0, BEYOND},
            {3, 0, 0, 0, 0, MISSING}, {0, 0, 3, 0, 0, MISSING}, {0, 0, 2, 0, 1, KIND}, {0, -1, 2, 0, 1, KIND},
            {0, 3, 1, 0, 3, BEYOND}, {0, 0, 1, 1, 3, BEYOND}, {0, -1, 1, 0, 1, BEYOND}, {0, 0, 1, -1, 1, BEYOND},
            {0, 0, 1, 0, -1, BEYOND}, {0, HIGH, 1, 0, HIGH, BEYOND}, {0, HIGH, 1, 0, 1, BEYOND},
            {0, 6, 1, 0, 0, BEYOND}, {0, 0, 1, 4, 0, BEYOND}, {0, LOW, 1, LOW, LOW, BEYOND}};
        for (int[] b : bad) {
            due("copy(" + b[0] + ", " + b[1] + ", " + b[2] + ", " + b[3] + ", " + b[4] + ")",
                x.copy(b[0], b[1], b[2], b[3], b[4]), b[5]);
        }
    }

    private static void lays() {
        begin(34);
        due("lays(0)", x.lays(0), MISSING);
        due("lays(4)", x.lays(4), BEYOND);
        due("lays(-1)", x.lays(-1), BEYOND);
        x.sheet(0, 64, 6);
        due("lays(0)", x.lays(0), 0);
        for (int m = 0; m < 5; m++) {
            x.mother(0);
        }
        long[] numbers = {99, 100, -1, (1L << 32) + 5, 0, 7};
        for (int i = 0; i < numbers.length; i++) {
            x.write(0, i, numbers[i]);
        }
        due("lays(0)", x.lays(0), 2);
        int[] secrets = {99, 10, 10, 10, 0};
        for (int m = 0; m < 5; m++) {
            due("of(" + m + ", 2)", x.of(m, 2), secrets[m]);
        }
        x.sheet(1, 8, 1);
        due("lays(1)", x.lays(1), 1);
        due("of(0, 2)", x.of(0, 2), 0);
    }

    private static void book() {
        begin(35);
        due("book(0)", x.book(0), MISSING);
        due("book(4)", x.book(4), BEYOND);
        due("book(-1)", x.book(-1), BEYOND);
        x.sheet(0, 8, 3);
        x.sheet(1, 16, 3);
        x.sheet(2, 64, 0);
        x.iron(1, 200);
        due("book(0)", x.book(0), 3);
        due("book(1)", x.book(1), 3);
        due("book(2)", x.book(2), 0);
        int[] speeds = {200, 180, 162};
        for (int i = 0; i < 3; i++) {
            due("write(0, " + i + ", 0)", x.write(0, i, 0), speeds[i] - 256);
            due("write(1, " + i + ", 0)", x.write(1, i, 0), speeds[i]);
        }
        due("now(4)", x.now(4), 200);
        due("now(0)", x.now(0), 0);
    }

    private static void read() {
        begin(36);
        due("read(0, 0)", x.read(0, 0), MISSING);
        due("read(4, 0)", x.read(4, 0), BEYOND);
        due("read(-1, 0)", x.read(-1, 0), BEYOND);
        x.sheet(0, 16, 2);
        due("read(0, 0)", x.read(0, 0), BEYOND);
        due("read(1, 0)", x.read(1, 0), MISSING);
        mother(3, 95, 0, 1);
        due("read(0, 1)", x.read(0, 1), BEYOND);
        due("read(0, -1)", x.read(0, -1), BEYOND);
        x.book(0);
        // 190 by 10 is 19: only the secrets 95 to 99 of a Mrs turn it so.
        due("read(0, 0)", x.read(0, 0), 5);
        // 40 by 10: a Mrs of 20 to 24, an aunt or a gran of 80 to 99.
        x.set(0, 2, 20);
        x.book(0);
        due("read(0, 0)", x.read(0, 0), 45);
        due("of(0, 0)", x.of(0, 0), 3);
        due("of(0, 2)", x.of(0, 2), 20);
        x.sheet(0, 16, 1);
        due("read(0, 0)", x.read(0, 0), 600);
        x.write(0, 0, 1);
        due("read(0, 0)", x.read(0, 0), 0);
        x.sheet(0, 64, 0);
        due("read(0, 0)", x.read(0, 0), 600);
        // Inside she turns nothing: every pair fits, or none.
        x.out(0, 0);
        x.sheet(0, 8, 40);
        due("read(0, 0)", x.read(0, 0), 600);
        x.write(0, 39, 1);
        due("read(0, 0)", x.read(0, 0), 0);
    }

    private static void image() {
        begin(37);
        x.rain(5);
        mother(3, 20, 4, 1);
        child(150);
        x.minutes(12);
        due("image()", x.image(), 1);
        int[] was = new int[10];
        for (int what = 0; what < was.length; what++) {
            was[what] = x.now(what);
        }
        int secret = x.of(0, 2);
        int silent = x.of(0, 3);
        type("aunt");
        x.sheet(0, 8, 1);
        x.minutes(100);
        x.rain(0);
        x.iron(0, 33);
        x.iron(1, 200);
        x.turn(0, 1);
        x.set(0, 2, 77);
        x.mother(0);
        x.child(9);
        x.minutes(1);
        x.mother(9);
        promise = 38;
        due("undo()", x.undo(), 1);
        for (int what = 0; what < was.length; what++) {
            due("now(" + what + ")", x.now(what), was[what]);
        }
        due("of(0, 0)", x.of(0, 0), 3);
        due("of(0, 2)", x.of(0, 2), secret);
        due("of(0, 3)", x.of(0, 3), silent);
        due("rain(5)", x.rain(5), 5);
        due("childOf(0, 0)", x.childOf(0, 0), 150);
        due("childOf(0, 2)", x.childOf(0, 2), 0);
        due("count(1)", x.count(1), 1);
        due("count(2)", x.count(2), 4);
        due("status(0)", x.status(0), 1);
        due("write(0, 0, 1)", x.write(0, 0, 1), 0);
        x.mother(0);
        due("image()", x.image(), 1);
        x.mother(0);
        due("undo()", x.undo(), 2);
        x.mother(0);
        due("undo()", x.undo(), 2);
        promise = 39;
        due("tear()", x.tear(), 1);
        due("tear()", x.tear(), 0);
        due("undo()", x.undo(), NONE);
        due("count(0)", x.count(0), 2);
        due("image()", x.image(), 1);
        due("undo()", x.undo(), 2);
    }

    private static void count() {
        begin(40);
        x.mother(0);
        x.mother(0);
        for (int c = 0; c < 3; c++) {
            child(0);
        }
        type("mrs");
        x.iron(1, 50);
        x.minutes(1);
        x.ride(1, 1);
        x.minutes(1);
        due("count(0)", x.count(0), 2);
        due("count(1)", x.count(1), 3);
        due("count(2)", x.count(2), 3);
        due("count(3)", x.count(3), 4);
        due("count(4)", x.count(4), BEYOND);
        due("count(-1)", x.count(-1), BEYOND);
    }

    private static void status() {
        begin(41);
        due("status(7)", x.status(7), BEYOND);
        due("status(-2)", x.status(-2), BEYOND);
        due("status(0)", x.status(0), 2);
        for (int m = 0; m < 10; m++) {
            x.mother(1);
        }
        x.as(0, 2);
        x.as(0, 3);
        x.as(0, 4);
        x.undo();
        x.write(0, 0, 1);
        x.write(1, 0, 1);
        x.sheet(0, 8, -1);
        x.image();
        x.undo();
        int[] want = {2, 2, 3, 1, 0, 2, 1};
        for (int which = 0; which < want.length; which++) {
            due("status(" + which + ")", x.status(which), want[which]);
        }
        due("status(-1)", x.status(-1), 11);
    }
}
