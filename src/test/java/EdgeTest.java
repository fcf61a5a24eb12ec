/**
 * The edges that the promises name (the text of a green has TextTest), a run of its own for each
 * sentence. Worked out by hand, but for TURNED in send, kind and weather at 59 and 60 minutes,
 * where one call is held against another (on).
 */
public final class EdgeTest {
    private EdgeTest() {
    }

    public static void main(String[] args) {
        aNewObject();
        theGreen();
        mothers();
        ofOne();
        asKinds();
        children();
        minutes();
        on();
        then();
        quick();
        stands();
        flung();
        send();
        kind();
        firm();
        heavy();
        fewest();
        weather();
        deepest();
        tape();
        sheet();
        write();
        copy();
        lays();
        book();
        read();
        images();
        count();
        status();
        Rows.end();
    }

    private static void aNewObject() {
        Rows.edge("1: nobody there, it stands", """
            count(0) 0; count(1) 0; now(4) 0; now(5) 0; now(6) 10; now(7) 0; now(8) 0; now(9) 0; stands() 0; count(3) 0
            """);
        Rows.edge("1: THE TAPE is empty", "count(2) 0; wipe() 0");
        Rows.edge("1: no image is kept", "undo() NONE; tear() 0");
        Rows.edge("1: no act has answered a finding", "status(-1) 0; status(0) 0; status(6) 0");
        Rows.edge("1: two objects have nothing in common", "mother(0) 0; child(5) 0; sheet(0, 8, 1) 1; image() 1; feed(1, 1) 1");
        Rows.edge("1: and the next one is new", "mother(0) 0; child(5) 0; write(0, 0, 1) MISSING; undo() NONE; feed(1, 1) 1");
    }

    private static void theGreen() {
        Rows.edge("2: iron: what 0 or 1", """
            iron(-1, 5) BEYOND; iron(2, 5) BEYOND; iron(LOW, 5) BEYOND; iron(HIGH, 5) BEYOND; now(4) 0; now(6) 10
            iron(0, 5) 10; iron(1, 5) 0; now(4) 5; now(6) 5
            """);
        Rows.edge("2: iron: 51 to 200 are a SPEED, but no HEAVY; 0 is", """
            iron(0, 200) BEYOND; iron(1, 200) 0; iron(1, 51) 200; iron(0, 51) BEYOND; iron(0, 0) BEYOND; iron(1, 0) 51
            """);
        Rows.edge("3: rain: 0 to 31", """
            rain(31) 0; rain(32) BEYOND; rain(63) BEYOND; rain(HIGH) BEYOND; rain(0) 31; rain(-1) BEYOND; rain(LOW) BEYOND; rain(5) 0
            rain(5) 5
            """);
        Rows.edge("4: now: what 0 to 9", "now(-1) BEYOND; now(0) 0; now(9) 0; now(10) BEYOND; now(LOW) BEYOND; now(HIGH) BEYOND");
        Rows.edge("4: now: who is OUT, as a set, none and all", """
            now(8) 0
            8 x mother(0) ?
            now(8) 0; out(0, 1) 0; now(8) 1; out(7, 1) 0; now(8) 129
            out(1, 1) 0; out(2, 1) 0; out(3, 1) 0; out(4, 1) 0; out(5, 1) 0; out(6, 1) 0; now(8) 255
            out(0, 0) 1; now(8) 254
            """);
        Rows.edge("4: now: which children are ON, as a set, none and all", """
            now(9) 0
            6 x child(0) ?
            now(9) 0; ride(0, 1) 1; now(9) 1; ride(5, 1) 2; now(9) 33
            ride(1, 1) 3; ride(2, 1) 4; ride(3, 1) 5; ride(4, 1) 6; now(9) 63
            ride(5, 0) 5; now(9) 31
            """);
        Rows.edge("4: now: PUSH in this MINUTE, as the gran's night comes", """
            mother(4) 0; minutes(39) 0; out(0, 1) 0; now(7) 5; minutes(1) 0; now(7) 16
            """);
    }

    private static void mothers() {
        Rows.edge("5: mother: BEYOND: kind", """
            mother(-1) BEYOND; mother(6) BEYOND; mother(LOW) BEYOND; mother(HIGH) BEYOND; count(0) 0; mother(0) 0; mother(5) 1
            """);
        Rows.edge("5: mother: FULL, and BEYOND before it", """
            8 x mother(5) ?
            mother(0) FULL; mother(5) FULL; mother(6) BEYOND; mother(-1) BEYOND; count(0) 8
            """);
        Rows.edge("7: set: what 2 or 3", """
            mother(0) 0; set(0, 1, 1) BEYOND; set(0, 4, 1) BEYOND; set(0, 0, 1) BEYOND; set(0, -1, 1) BEYOND
            set(0, LOW, 1) BEYOND; set(0, HIGH, 1) BEYOND
            set(0, 2, 1) 10; set(0, 3, 2) 0; of(0, 2) 1; of(0, 3) 2; of(0, 0) 0; of(0, 1) 0
            """);
        Rows.edge("7: set: 100 to 999 are SILENT, but no SECRET", """
            mother(0) 0; set(0, 3, 100) 0; set(0, 2, 100) BEYOND; set(0, 2, 999) BEYOND; set(0, 3, 999) 100
            """);
        Rows.edge("7: set: no such mother", """
            set(0, 2, 5) BEYOND; mother(0) 0; set(-1, 2, 5) BEYOND; set(1, 2, 5) BEYOND; set(0, 2, 5) 10; mother(0) 1; set(1, 2, 5) 10
            set(2, 2, 5) BEYOND; set(LOW, 3, 5) BEYOND; set(HIGH, 3, 5) BEYOND
            """);
        Rows.edge("8: out: v 0 or 1", """
            mother(0) 0; set(0, 3, 7) 0; out(0, -1) BEYOND; out(0, 2) BEYOND; out(0, LOW) BEYOND; out(0, HIGH) BEYOND
            of(0, 1) 0; of(0, 3) 7; out(0, 1) 0; out(0, 0) 1; out(0, 0) 0
            """);
        Rows.edge("8: out: no such mother", """
            out(0, 1) BEYOND; mother(0) 0; out(1, 1) BEYOND; out(-1, 1) BEYOND; out(LOW, 1) BEYOND; out(HIGH, 1) BEYOND; now(8) 0
            7 x mother(0) ?
            out(7, 1) 0; out(8, 1) BEYOND; now(8) 128
            """);
        Rows.edge("8: out: SILENT 0 as she comes", "mother(0) 0; set(0, 3, 7) 0; out(0, 1) 0; of(0, 3) 0");
        Rows.edge("8: out: SILENT 0 as she goes", "mother(0) 0; out(0, 1) 0; set(0, 3, 7) 0; out(0, 0) 1; of(0, 3) 0");
        Rows.edge("8: out: SILENT 0 if she was OUT already", "mother(0) 0; out(0, 1) 0; set(0, 3, 7) 0; out(0, 1) 1; of(0, 3) 0");
        Rows.edge("8: out: SILENT 0 if she was in already", "mother(0) 0; set(0, 3, 7) 0; out(0, 0) 0; of(0, 3) 0");
        Rows.edge("9: turn: kinds 0 to 5", """
            mother(3) 0; turn(0, -1) BEYOND; turn(0, 6) BEYOND; turn(0, LOW) BEYOND; turn(0, HIGH) BEYOND; of(0, 0) 3
            turn(0, 0) 3; turn(0, 5) 0; turn(0, 5) 5; of(0, 0) 5
            """);
        Rows.edge("9: turn: no such mother", """
            turn(0, 0) BEYOND; mother(3) 0; turn(1, 0) BEYOND; turn(-1, 0) BEYOND; turn(LOW, 0) BEYOND; turn(HIGH, 0) BEYOND
            turn(0, 0) 3
            """);
        Rows.edge("9: turn: the rest of her stays", """
            mother(3) 0; out(0, 1) 0; set(0, 2, 77) 10; set(0, 3, 999) 0; turn(0, 2) 3; of(0, 1) 1; of(0, 2) 77; of(0, 3) 999
            """);
    }

    private static void ofOne() {
        Rows.edge("6: of: no such mother", """
            of(0, 0) BEYOND; of(-1, 0) BEYOND; mother(1) 0; of(0, 0) 1; of(1, 0) BEYOND; of(-1, 0) BEYOND
            of(LOW, 0) BEYOND; of(HIGH, 0) BEYOND; of(8, 0) BEYOND
            7 x mother(4) ?
            of(7, 0) 4; of(8, 0) BEYOND
            """);
        Rows.edge("6: of: what 0 to 6", """
            mother(5) 0; of(0, -1) BEYOND; of(0, 0) 5; of(0, 6) 7; of(0, 7) BEYOND; of(0, LOW) BEYOND; of(0, HIGH) BEYOND
            """);
        Rows.edge("6: of: KEEPS, OUT or not, in RAIN or not", """
            mother(3) 0; of(0, 4) 20; out(0, 1) 0; of(0, 4) 20; rain(31) 0; of(0, 4) 20; now(7) 0
            """);
        Rows.edge("6: of: 1 if she SPEAKS as all is, OUT or not", """
            mother(0) 0; set(0, 3, 9) 0; of(0, 5) 1; out(0, 1) 0; of(0, 5) 0; set(0, 3, 9) 0; of(0, 5) 1; rain(31) 0; of(0, 5) 1
            """);
    }

    private static void asKinds() {
        String[] are = {"0", "01", "02", "03", "014", "025"};
        for (int m = 0; m < 6; m++) {
            StringBuilder rows = new StringBuilder("mother(" + m + ") 0; set(0, 2, 0) 10\n");
            for (int k = 0; k < 6; k++) {
                rows.append("as(0, ").append(k).append(") ").append(are[m].indexOf('0' + k) >= 0 ? "0" : "KIND").append('\n');
            }
            Rows.edge("10: as: it is of that kind, or of one under it: " + m, rows.toString());
        }
        Rows.edge("10: as: SECRET, the most", "mother(5) 0; set(0, 2, 99) 10; as(0, 5) 99; as(0, 2) 99; as(0, 0) 99");
        Rows.edge("10: as: BEYOND: no such one, kind", """
            as(0, 0) BEYOND; mother(0) 0; as(0, 0) 10; as(1, 0) BEYOND; as(-1, 0) BEYOND; as(LOW, 0) BEYOND; as(HIGH, 0) BEYOND
            as(0, -1) BEYOND; as(0, 6) BEYOND; as(0, LOW) BEYOND; as(0, HIGH) BEYOND; as(0, 5) KIND
            """);
        Rows.edge("10: as: BEYOND before KIND", "mother(3) 0; as(1, 5) BEYOND; as(-1, 5) BEYOND; as(1, 6) BEYOND; as(0, 5) KIND");
    }

    private static void children() {
        Rows.edge("11: child: GRIP 0 to 200", """
            child(-1) BEYOND; child(201) BEYOND; child(LOW) BEYOND; child(HIGH) BEYOND; count(1) 0
            child(0) 0; child(200) 1; childOf(0, 0) 0; childOf(1, 0) 200; now(9) 0
            """);
        Rows.edge("11: child: FULL, and BEYOND before it", """
            6 x child(200) ?
            child(0) FULL; child(200) FULL; child(201) BEYOND; child(-1) BEYOND; count(1) 6
            """);
        Rows.edge("12: childOf: no such child", """
            childOf(0, 0) BEYOND; child(7) 0; childOf(0, 0) 7; childOf(1, 0) BEYOND; childOf(-1, 0) BEYOND
            childOf(LOW, 0) BEYOND; childOf(HIGH, 0) BEYOND
            5 x child(8) ?
            childOf(5, 0) 8; childOf(6, 0) BEYOND
            """);
        Rows.edge("12: childOf: what 0 to 2", """
            child(7) 0; ride(0, 1) 1; childOf(0, -1) BEYOND; childOf(0, 0) 7; childOf(0, 1) 1; childOf(0, 2) 0; childOf(0, 3) BEYOND
            childOf(0, LOW) BEYOND; childOf(0, HIGH) BEYOND
            """);
        Rows.edge("13: grip: 0 to 200", """
            child(7) 0; grip(0, 201) BEYOND; grip(0, -1) BEYOND; grip(0, LOW) BEYOND; grip(0, HIGH) BEYOND
            grip(0, 200) 7; grip(0, 0) 200; childOf(0, 0) 0
            """);
        Rows.edge("13: grip: no such child", """
            grip(0, 5) BEYOND; child(7) 0; grip(1, 5) BEYOND; grip(-1, 5) BEYOND; grip(LOW, 5) BEYOND; grip(HIGH, 5) BEYOND; grip(0, 5) 7
            """);
        Rows.edge("14: ride: v 0 or 1", """
            child(7) 0; ride(0, 2) BEYOND; ride(0, -1) BEYOND; ride(0, LOW) BEYOND; ride(0, HIGH) BEYOND; now(9) 0
            ride(0, 1) 1; ride(0, 2) BEYOND; now(9) 1; ride(0, 0) 0
            """);
        Rows.edge("14: ride: no such child", """
            ride(0, 1) BEYOND; child(7) 0; ride(1, 1) BEYOND; ride(-1, 1) BEYOND; ride(LOW, 1) BEYOND; ride(HIGH, 1) BEYOND
            5 x child(7) ?
            ride(5, 1) 1; ride(6, 1) BEYOND
            """);
        Rows.edge("14: ride: how many are ON then, who was ON or off already too", """
            child(7) 0; child(7) 1; ride(0, 0) 0; ride(0, 1) 1; ride(0, 1) 1; ride(1, 1) 2; ride(1, 1) 2; ride(0, 0) 1; ride(0, 0) 1
            """);
        Rows.edge("14: ride: one who gets off is not FLUNG, and GRIP stays", """
            child(7) 0; ride(0, 1) 1; ride(0, 0) 0; childOf(0, 0) 7; childOf(0, 2) 0
            """);
    }

    private static void minutes() {
        Rows.edge("15: minutes: 1 to 100", """
            minutes(0) BEYOND; minutes(-1) BEYOND; minutes(101) BEYOND; minutes(LOW) BEYOND; minutes(HIGH) BEYOND; now(0) 0
            minutes(1) 0; now(0) 1; minutes(100) 0; now(0) 101
            """);
        Rows.edge("15: minutes: SPEED then", "iron(1, 100) 0; minutes(1) 90; minutes(2) 73; now(4) 73");
        Rows.longEdge("15: minutes: STATE: MINUTE would be above 99999, and BEYOND before it", """
            iron(1, 200) 0
            999 x minutes(100) ?
            now(0) 99900
            minutes(100) STATE; minutes(101) BEYOND; minutes(0) BEYOND
            minutes(98) 0; minutes(2) STATE; minutes(1) 0; now(0) 99999
            minutes(1) STATE; minutes(100) STATE; minutes(101) BEYOND; minutes(HIGH) BEYOND; status(4) 4
            """);
    }

    /** Dry in part 4 alone: 3, 6, .., 21, 23, 25, 27 in each night, and down to 0 before the next. */
    private static final String NIGHTLY = "mother(3) 0; set(0, 2, 20) 10; out(0, 1) 0; rain(15) 0\n";

    private static void on() {
        Rows.edge("16: on: n 0 to 200", """
            on(-1, 0) BEYOND; on(0, 0) 0; on(200, 0) 0; on(201, 0) BEYOND; on(LOW, 0) BEYOND; on(HIGH, 0) BEYOND
            """);
        Rows.edge("16: on: what 0 to 2", """
            on(0, -1) BEYOND; on(0, 0) 0; on(0, 2) 0; on(0, 3) BEYOND; on(0, LOW) BEYOND; on(0, HIGH) BEYOND
            """);
        Rows.edge("16: on: the 200th minute and the one before it", NIGHTLY + """
            on(40, 0) 0; on(41, 0) 3; on(199, 0) 25; on(200, 0) 27
            on(40, 1) 0; on(41, 1) 3; on(199, 1) 1386; on(200, 1) 1413
            """);
        // By 13, and by 11, it is 3 more, 1 less: 2, 4, .., 20 in each night. A grip of 1 goes in the first minute of it.
        Rows.edge("16: on: all are ON, and one off", NIGHTLY + """
            iron(0, 1) 10
            6 x child(0) ?
            grip(0, 40) 0; grip(1, 40) 0; grip(2, 40) 0; grip(3, 40) 0; grip(4, 40) 0; grip(5, 23) 0
            ride(0, 1) 1; ride(1, 1) 2; ride(2, 1) 3; ride(3, 1) 4; ride(4, 1) 5; ride(5, 1) 6
            now(6) 13; on(0, 2) 63; on(40, 2) 63; on(200, 2) 63
            grip(3, 1) 40; on(40, 2) 63; on(41, 2) 55; on(200, 2) 55
            """);
    }

    private static void then() {
        Rows.edge("17: then: no such mother", """
            then(0, 0, 0) BEYOND; mother(0) 0; then(0, 0, 0) 10; then(1, 0, 0) BEYOND; then(-1, 0, 0) BEYOND
            then(LOW, 0, 0) BEYOND; then(HIGH, 0, 0) BEYOND
            7 x mother(0) ?
            then(7, 200, 0) 10; then(8, 0, 0) BEYOND
            """);
        Rows.edge("17: then: n 0 to 200", """
            mother(0) 0; then(0, -1, 0) BEYOND; then(0, 0, 0) 10; then(0, 200, 0) 10; then(0, 201, 0) BEYOND
            then(0, LOW, 0) BEYOND; then(0, HIGH, 0) BEYOND
            """);
        Rows.edge("17: then: what 0 or 1", """
            mother(0) 0; then(0, 0, -1) BEYOND; then(0, 0, 0) 10; then(0, 0, 1) 0; then(0, 0, 2) BEYOND
            then(0, 0, LOW) BEYOND; then(0, 0, HIGH) BEYOND
            """);
        // Silent for 9, then a word, which costs 3: 19 words before the 200th minute, and one in it.
        Rows.edge("17: then: the 200th minute and the one before it", """
            mother(0) 0; set(0, 2, 99) 10; out(0, 1) 0
            then(0, 9, 0) 99; then(0, 9, 1) 9; then(0, 10, 0) 96; then(0, 10, 1) 0
            then(0, 199, 0) 42; then(0, 199, 1) 9; then(0, 200, 0) 39; then(0, 200, 1) 0
            """);
        Rows.edge("17: then: SECRET is 0 at least", """
            mother(0) 0; out(0, 1) 0; then(0, 39, 0) 1; then(0, 40, 0) 0; then(0, 200, 0) 0
            """);
    }

    /**
     * Dry in part 4 alone, 60 by 10: 5, 10, 15, 20, 24, 28, 32, 35, 38, 41 in each night, and 37, 34, 31, .. after
     * it: 7 minutes above 30 a day. In the fourth night 23 of the grip have gone before the 9th minute, the 199th.
     */
    private static String nights(int grip) {
        return "mother(3) 0; set(0, 2, 30) 10; out(0, 1) 0; iron(0, 8) 10; rain(15) 0; child(" + grip + ") 0; ride(0, 1) 1\n";
    }

    /** The same a minute before it: the last minute of a day is the first to go. */
    private static String nightsAMinuteBefore(int grip) {
        return "minutes(49) 0\n" + nights(grip);
    }

    private static void quick() {
        Rows.edge("18: quick: v 0 to 200", """
            quick(-1) BEYOND; quick(0) 0; quick(200) NONE; quick(201) BEYOND; quick(LOW) BEYOND; quick(HIGH) BEYOND
            """);
        Rows.edge("18: quick: BEYOND before NONE", "quick(200) NONE; quick(201) BEYOND; quick(-1) BEYOND");
        Rows.edge("18: quick: in 0 minutes, if it is v or more already", """
            iron(1, 200) 0; quick(200) 0; quick(199) 0; quick(0) 0; iron(1, 199) 200; quick(199) 0; quick(200) NONE
            """);
        Rows.edge("18: quick: first in 1", "mother(3) 0; out(0, 1) 0; quick(0) 0; quick(1) 1; quick(2) 2");
        // 37 of the grip are below 38 in the 199th minute; without the child it is 7 more in the 200th, and 3 less: 42.
        Rows.edge("18: quick: in 200 it is found", nights(60) + "on(199, 0) 38; on(199, 2) 0; on(200, 0) 42; quick(41) 50; quick(42) 200");
        Rows.edge("18: quick: in 201 it is NONE", nightsAMinuteBefore(60) + "quick(42) NONE; minutes(1) 5; quick(42) 200");
        Rows.edge("18: quick: 200 can be reached", """
            mother(3) 0; set(0, 2, 99) 10; out(0, 1) 0; iron(0, 1) 10; quick(197) 1; quick(198) 2; quick(200) 2
            """);
    }

    private static void stands() {
        Rows.edge("19: stands: in 0 minutes, if it stands", "stands() 0");
        Rows.edge("19: stands: in 1", "iron(1, 1) 0; stands() 1");
        Rows.edge("19: stands: from 200 in 43", "iron(1, 200) 0; stands() 43; minutes(43) 0; now(5) 1896");
        // 48, and 67 by 5 and less and less of it, and what she is silent: 50 and more by 50 as long as 2 are left.
        String slowly = """
            mother(3) 0; set(0, 2, 24) 10; out(0, 1) 0; mother(0) 1; set(1, 2, 67) 10; out(1, 1) 0; iron(0, 50) 10; iron(1, 1) 0
            """;
        Rows.edge("19: stands: in 200 it is found", slowly + "set(1, 3, 1) 0; on(199, 0) 1; on(200, 0) 0; stands() 200");
        Rows.edge("19: stands: in 201 it is NONE", slowly + "on(200, 0) 1; stands() NONE; minutes(1) 1; stands() 200");
        Rows.edge("19: stands: never", "mother(3) 0; set(0, 2, 50) 10; out(0, 1) 0; minutes(1) 9; stands() NONE");
    }

    private static void flung() {
        Rows.edge("20: flung: no such child", """
            flung(0) BEYOND; child(0) 0; flung(0) NONE; flung(1) BEYOND; flung(-1) BEYOND; flung(LOW) BEYOND; flung(HIGH) BEYOND
            5 x child(0) ?
            flung(5) NONE; flung(6) BEYOND
            """);
        Rows.edge("20: flung: BEYOND before NONE", "child(0) 0; flung(0) NONE; flung(1) BEYOND");
        Rows.edge("20: flung: in 1", "child(0) 0; ride(0, 1) 1; iron(1, 2) 0; flung(0) 1; iron(1, 1) 2; flung(0) NONE");
        Rows.edge("20: flung: one who isn't ON is never", "child(0) 0; iron(1, 200) 0; flung(0) NONE; ride(0, 1) 1; flung(0) 1");
        Rows.edge("20: flung: in 200 it is found", nights(61) + "on(199, 2) 1; on(200, 2) 0; flung(0) 200");
        Rows.edge("20: flung: in 201 it is NONE", nightsAMinuteBefore(61) + "on(200, 2) 1; flung(0) NONE; minutes(1) 5; flung(0) 200");
        Rows.edge("20: flung: next, not before", """
            child(0) 0; ride(0, 1) 1; iron(1, 50) 0; minutes(1) 45; childOf(0, 2) 1; flung(0) NONE; ride(0, 1) 1; flung(0) 1
            """);
    }

    private static void send() {
        Rows.edge("21: send: n 1 to 60", """
            mother(3) 0; out(0, 1) 0; send(0) BEYOND; send(1) 0; send(60) 0; send(61) BEYOND; send(-1) BEYOND
            send(LOW) BEYOND; send(HIGH) BEYOND
            """);
        Rows.edge("21: send: NONE: none is OUT", "send(1) NONE; mother(3) 0; send(60) NONE; out(0, 1) 0; send(60) 0; out(0, 0) 1; send(60) NONE");
        Rows.edge("21: send: BEYOND before NONE", "send(0) BEYOND; send(61) BEYOND; send(1) NONE");
        Rows.edge("21: send: of several the least", """
            8 x mother(3) ?
            out(3, 1) 0; out(5, 1) 0; out(7, 1) 0; send(1) 3; send(60) 3; set(7, 2, 99) 10; send(60) 7
            """);
        Rows.edge("21: send: one that is OUT, never one that is in", """
            mother(3) 0; set(0, 2, 99) 10; mother(3) 1; set(1, 2, 0) 10; out(1, 1) 0; send(60) 1
            """);
        Rows.edge("21: send: TURNED so far is as much for all", """
            mother(3) 0; mother(3) 1; set(0, 2, 99) 10; out(0, 1) 0; out(1, 1) 0; minutes(50) ?; send(1) 0; send(60) 0
            """);
        // 36 by 1 without the gossip; with her and one other it is 19 and 18.
        Rows.edge("21: send: a gossip with one other left is not alone", """
            mother(2) 0; mother(3) 1; mother(3) 2; set(0, 2, 99) 10; set(1, 2, 9) 10; set(2, 2, 9) 10; out(0, 1) 0; out(1, 1) 0; out(2, 1) 0
            iron(0, 1) 10; send(1) 0
            """);
        // After 59 minutes it has turned 1 less without the Mrs, after 60 as much without either.
        String two = "mother(0) 0; mother(3) 1; set(0, 2, 95) 10; out(0, 1) 0; out(1, 1) 0; iron(0, 5) 10\n";
        Rows.edge("21: send: 59 and 60 MINUTES are not the same", two + "send(1) 1; send(59) 1; send(60) 0");
        Rows.edge("21: send: as TURNED is without the one", two + "out(0, 0) 1; on(59, 1) 2063; on(60, 1) 2103");
        Rows.edge("21: send: as TURNED is without the other", two + "out(1, 0) 1; on(59, 1) 2062; on(60, 1) 2103");
    }

    private static void kind() {
        Rows.edge("22: kind: n 1 to 60", """
            mother(3) 0; out(0, 1) 0; kind(0, 0) BEYOND; kind(0, 1) 3; kind(0, 60) 3; kind(0, 61) BEYOND; kind(0, -1) BEYOND
            kind(0, LOW) BEYOND; kind(0, HIGH) BEYOND
            """);
        Rows.edge("22: kind: no such mother", """
            kind(0, 1) BEYOND; mother(3) 0; kind(0, 1) 0; kind(1, 1) BEYOND; kind(-1, 1) BEYOND; kind(LOW, 1) BEYOND; kind(HIGH, 1) BEYOND
            7 x mother(3) ?
            kind(7, 60) 0; kind(8, 60) BEYOND
            """);
        Rows.edge("22: kind: of several the least: in, she turns nothing", "mother(5) 0; mother(3) 1; out(1, 1) 0; kind(0, 60) 0");
        // 30 silent minutes and no secret: a mother, an aunt and a gran keep back 30, in the night a gran 40.
        Rows.edge("22: kind: of several the least: aunt and gran by day", """
            mother(5) 0; out(0, 1) 0; set(0, 2, 20) 10; set(0, 3, 30) 0; kind(0, 1) 1; set(0, 2, 0) 20; kind(0, 1) 0
            """);
        Rows.edge("22: kind: the gran in the night", """
            minutes(40) 0; mother(0) 0; out(0, 1) 0; set(0, 2, 0) 10; set(0, 3, 30) 0; kind(0, 1) 4
            """);
        Rows.edge("22: kind: the bride, the last of them", """
            mother(0) 0; mother(3) 1; out(0, 1) 0; out(1, 1) 0; set(0, 2, 0) 10; set(0, 3, 30) 0; set(1, 2, 5) 10; iron(0, 1) 10
            kind(0, 1) 5; of(0, 0) 0
            """);
        String late = "mother(0) 0; set(0, 2, 0) 10; out(0, 1) 0; set(0, 3, 1) 0; iron(0, 1) 10; rain(30) 0\n";
        Rows.edge("22: kind: 59 and 60 MINUTES are not the same", late + "kind(0, 59) 4; kind(0, 60) 1");
        Rows.edge("22: kind: as TURNED is of an aunt", late + "turn(0, 1) 0; on(59, 1) 747; on(60, 1) 802");
        Rows.edge("22: kind: as TURNED is of a gran", late + "turn(0, 4) 0; on(59, 1) 751; on(60, 1) 790");
    }

    private static void firm() {
        Rows.edge("23: firm: n 1 to 60", """
            child(9) 0; firm(0, 0) BEYOND; firm(0, 1) 0; firm(0, 60) 0; firm(0, 61) BEYOND; firm(0, -1) BEYOND
            firm(0, LOW) BEYOND; firm(0, HIGH) BEYOND
            """);
        Rows.edge("23: firm: no such child", """
            firm(0, 1) BEYOND; child(9) 0; firm(1, 1) BEYOND; firm(-1, 1) BEYOND; firm(LOW, 1) BEYOND; firm(HIGH, 1) BEYOND
            5 x child(9) ?
            firm(5, 60) 0; firm(6, 60) BEYOND
            """);
        Rows.edge("23: firm: the least is 0: it stands, or the child isn't ON", """
            child(9) 0; ride(0, 1) 1; firm(0, 60) 0; iron(1, 200) 0; firm(0, 60) 180; ride(0, 0) 0; firm(0, 60) 0
            """);
        Rows.edge("23: firm: the least is 1", "child(9) 0; ride(0, 1) 1; iron(1, 2) 0; firm(0, 60) 1; childOf(0, 0) 9");
        String fastest = "mother(3) 0; set(0, 2, 99) 10; out(0, 1) 0; iron(0, 1) 10; child(9) 0; ride(0, 1) 1\n";
        // 66 more and 20 less each minute: 200 all along, which takes 1 of the grip.
        Rows.edge("23: firm: the least is 200", fastest + "iron(1, 200) 0; firm(0, 1) 200");
        Rows.edge("23: firm: NONE: 200 is not enough, and BEYOND before it", fastest
            + "iron(1, 200) 0; firm(0, 2) NONE; firm(0, 60) NONE; firm(0, 61) BEYOND; firm(1, 2) BEYOND");
        Rows.edge("23: firm: FLUNG isn't more, however often it was", fastest
            + "minutes(1) 65; ride(0, 1) 1; childOf(0, 2) 1; out(0, 0) 1; iron(1, 50) 65; firm(0, 1) 45; firm(0, 60) 45");
        // 5, 10, .., 38, 41 twice, 7 minutes above 30 between: 38 and 9, 41 and 10.
        Rows.edge("23: firm: 59 and 60 MINUTES are not the same", """
            mother(3) 0; set(0, 2, 30) 10; out(0, 1) 0; iron(0, 8) 10; rain(30) 0; child(0) 0; ride(0, 1) 1
            firm(0, 10) 44; firm(0, 58) 44; firm(0, 59) 47; firm(0, 60) 51
            """);
    }

    private static void heavy() {
        Rows.edge("24: heavy: n 1 to 60", """
            heavy(0) BEYOND; heavy(1) 1; heavy(60) 1; heavy(61) BEYOND; heavy(-1) BEYOND; heavy(LOW) BEYOND; heavy(HIGH) BEYOND
            """);
        String one = "mother(3) 0; out(0, 1) 0; child(0) 0; ride(0, 1) 1\n";
        // 6 by 3 is 2, 1 less is 1; 2 more by 4 is 1, 1 less is 0.
        Rows.edge("24: heavy: the least is 1 with a child ON", one + "set(0, 2, 3) 10; grip(0, 1) 0; heavy(1) 1; grip(0, 0) 1; heavy(1) 2");
        // 102 by 52 is 1, by 51 it is 2; 104 by 52 is 2.
        Rows.edge("24: heavy: the least is 50", one + "set(0, 2, 51) 10; heavy(1) 50; now(6) 12");
        Rows.edge("24: heavy: NONE: 50 is not enough, and BEYOND before it", one
            + "set(0, 2, 52) 10; heavy(1) NONE; heavy(60) NONE; heavy(0) BEYOND; heavy(61) BEYOND");
        Rows.edge("24: heavy: no child, or none ON", one + "set(0, 2, 99) 10; heavy(60) NONE; ride(0, 0) 0; heavy(60) 1");
        Rows.edge("24: heavy: FLUNG of all isn't more, however often they were", one
            + "iron(1, 50) 0; minutes(1) 46; count(3) 1; out(0, 0) 1; iron(1, 0) 46; ride(0, 1) 1; heavy(60) 1");
        Rows.edge("24: heavy: of all, the last of six too", """
            6 x child(200) ?
            ride(5, 1) 1; iron(1, 100) 0; heavy(1) 1; grip(5, 90) 200; heavy(1) 1; grip(5, 89) 90; heavy(1) NONE
            """);
        // By 10 and by 9 it is 6 more: 50 of the grip are too few in the 60th minute; by 8 in the 10th; by 11 it is 5.
        Rows.edge("24: heavy: 59 and 60 MINUTES are not the same", """
            mother(3) 0; set(0, 2, 30) 10; out(0, 1) 0; rain(30) 0; child(50) 0; ride(0, 1) 1; heavy(59) 7; heavy(60) 9
            """);
        // Each keeps 5, 2 and 9: 64. By 5 it goes at 101 and they speak: 48 by 5, 10 less, is 100, and 100 holds. By 6 it
        // goes at 99 and they don't: 68 by 6, 9 less, is 101, too quick for 100. By 7 it goes at 98 twice.
        Rows.edge("24: heavy: the least, even if a heavier one flings again", """
            text 4 bride secret 25 out;bride secret 25 out;bride secret 25 out;bride secret 25 out
            set(0, 3, 2) 0; set(1, 3, 2) 0; set(2, 3, 2) 0; set(3, 3, 2) 0; iron(1, 98) 0; child(101) 0; ride(0, 1) 1; heavy(2) 3
            iron(0, 2) 10; on(1, 0) 105; on(2, 2) 0; iron(0, 3) 2; on(1, 0) 101; on(2, 0) 100; on(2, 2) 1
            iron(0, 4) 3; on(1, 0) 99; on(2, 0) 101; on(2, 2) 0; iron(0, 5) 4; on(1, 0) 98; on(2, 0) 98; on(2, 2) 1; heavy(2) 3
            """);
    }

    private static void fewest() {
        Rows.edge("25: fewest: v 0 to 9999", """
            fewest(-1) BEYOND; fewest(0) 0; fewest(9999) NONE; fewest(10000) BEYOND; fewest(LOW) BEYOND; fewest(HIGH) BEYOND
            """);
        Rows.edge("25: fewest: BEYOND before NONE", "fewest(1) NONE; fewest(10000) BEYOND; fewest(-1) BEYOND");
        Rows.edge("25: fewest: nobody need come", """
            mother(3) 0; mother(3) 1; out(0, 1) 0; fewest(0) 0; fewest(20) 0; fewest(21) 2; fewest(40) 2; fewest(41) NONE
            """);
        Rows.edge("25: fewest: all must come", """
            8 x mother(3) ?
            fewest(140) 127; fewest(141) 255; fewest(160) 255; fewest(161) NONE
            """);
        Rows.edge("25: fewest: one with a high number rather than two with low ones", """
            8 x mother(3) ?
            set(7, 2, 20) 10; fewest(20) 1; fewest(21) 128; fewest(40) 128; fewest(41) 129
            """);
        Rows.edge("25: fewest: of several the least", """
            5 x mother(3) ?
            set(0, 2, 0) 10; fewest(20) 2; fewest(40) 6; set(1, 2, 0) 10; fewest(40) 12; set(3, 2, 0) 10; fewest(40) 20
            """);
        Rows.edge("25: fewest: of those that are in", """
            mother(3) 0; mother(3) 1; mother(3) 2; out(1, 1) 0; fewest(21) 1; fewest(60) 5; fewest(61) NONE
            out(0, 1) 0; out(2, 1) 0; fewest(60) 0; fewest(61) NONE
            """);
        Rows.edge("25: fewest: those OUT keep more with others", """
            mother(2) 0; mother(5) 1; mother(3) 2; set(2, 2, 0) 10; out(0, 1) 0; now(7) 0; fewest(2) 2; fewest(7) 2; fewest(8) 6
            fewest(10) 6; fewest(11) NONE
            """);
        Rows.edge("25: fewest: in RAIN only 0", "mother(3) 0; rain(1) 0; fewest(0) 0; fewest(1) NONE; rain(30) 1; fewest(1) 1");
        Rows.edge("25: fewest: one who comes OUT has SILENT 0", """
            mother(0) 0; set(0, 3, 999) 0; fewest(2) 1; fewest(3) NONE; of(0, 3) 999; of(0, 1) 0
            """);
        Rows.edge("25: fewest: one who is OUT keeps what SILENT says", "mother(3) 0; mother(0) 1; out(1, 1) 0; set(1, 3, 8) 0; fewest(10) 0; fewest(11) 1");
    }

    private static void weather() {
        Rows.edge("26: weather: n 1 to 60", """
            weather(0) BEYOND; weather(1) 0; weather(60) 0; weather(61) BEYOND; weather(-1) BEYOND; weather(LOW) BEYOND; weather(HIGH) BEYOND
            """);
        Rows.edge("26: weather: of several the least: nothing changes anything", "mother(3) 0; weather(60) 0; rain(31) 0; weather(60) 0");
        Rows.edge("26: weather: each part is the one that counts in it", """
            mother(3) 0; out(0, 1) 0; weather(1) 0; minutes(10) ?; weather(10) 1; minutes(10) ?; weather(10) 2
            minutes(10) ?; weather(10) 3; minutes(10) ?; weather(10) 4; minutes(10) ?; weather(10) 0
            """);
        Rows.edge("26: weather: dry, where it rains", """
            mother(3) 0; out(0, 1) 0; rain(31) 0; weather(10) 0; minutes(9) 0; weather(1) 0; minutes(1) 0; weather(1) 1
            minutes(30) 0; weather(10) 4
            """);
        Rows.edge("26: weather: whichever way", """
            mother(3) 0; set(0, 2, 50) 10; out(0, 1) 0; minutes(20) ?; iron(1, 0) ?; rain(27) 0; weather(20) 2; rain(23) 27; weather(20) 2
            """);
        String late = "minutes(46) 0; mother(3) 0; set(0, 2, 90) 10; out(0, 1) 0; iron(0, 4) 10; rain(28) 0\n";
        Rows.edge("26: weather: 59 and 60 MINUTES are not the same", late + "weather(59) 4; weather(60) 0; on(59, 1) 6055; on(60, 1) 6255");
        Rows.edge("26: weather: as TURNED is with RAIN in part 0, too", late + "rain(29) 28; on(59, 1) 3459; on(60, 1) 3466");
        Rows.edge("26: weather: as TURNED is without RAIN in part 4", late + "rain(12) 28; on(59, 1) 8723; on(60, 1) 8923");
    }

    private static void deepest() {
        // The bride keeps 2 and 3 for the aunt; were those that are in others, too, it would be 14 and more than 10.
        Rows.edge("27: deepest: only others that are OUT count", """
            text 5 bride out;aunt secret 20 out;mother;mother;mother
            of(0, 4) 5; of(1, 4) 10; deepest(0) 1; out(2, 1) 0; out(3, 1) 0; deepest(0) 0; of(0, 4) 11; out(1, 0) 1; deepest(0) 0
            """);
        Rows.edge("27: deepest: n 0 to 200", """
            mother(3) 0; out(0, 1) 0; deepest(-1) BEYOND; deepest(0) 0; deepest(200) 0; deepest(201) BEYOND
            deepest(LOW) BEYOND; deepest(HIGH) BEYOND
            """);
        Rows.edge("27: deepest: NONE: none is OUT, and BEYOND before it", """
            deepest(0) NONE; mother(3) 0; deepest(200) NONE; deepest(201) BEYOND; deepest(-1) BEYOND; out(0, 1) 0; deepest(0) 0
            """);
        Rows.edge("27: deepest: of several the least", """
            8 x mother(3) ?
            out(2, 1) 0; out(5, 1) 0; out(7, 1) 0; deepest(0) 2; deepest(200) 2; set(7, 2, 11) 10; deepest(0) 7
            """);
        Rows.edge("27: deepest: who KEEPS 0 is one, too", """
            mother(3) 0; mother(2) 1; out(1, 1) 0; deepest(0) 1; deepest(200) 1; set(0, 2, 0) 10; out(0, 1) 0; set(1, 2, 0) 10; deepest(0) 0
            """);
        Rows.edge("27: deepest: of those that are OUT", "mother(3) 0; set(0, 2, 99) 10; mother(3) 1; out(1, 1) 0; deepest(0) 1; deepest(200) 1");
        // 8 and 9 against 10 in the 199th minute, 7 and 0 in the 200th.
        Rows.edge("27: deepest: the 200th minute and the one before it", """
            mother(3) 0; set(0, 2, 5) 10; mother(0) 1; set(1, 2, 99) 10; out(0, 1) 0; out(1, 1) 0; deepest(199) 1; deepest(200) 0
            """);
        Rows.edge("27: deepest: in RAIN, too", "mother(3) 0; mother(3) 1; set(1, 2, 11) 10; out(0, 1) 0; out(1, 1) 0; rain(31) 0; deepest(0) 1; deepest(200) 1");
    }

    private static void tape() {
        Rows.edge("28: feed: n 1 to 4", """
            feed(1, 0) BEYOND; feed(1, -1) BEYOND; feed(1, 5) BEYOND; feed(1, LOW) BEYOND; feed(1, HIGH) BEYOND; count(2) 0
            feed(1, 1) 1; feed(1, 2) 3; feed(1, 3) 6; feed(1, 4) 10; count(2) 10
            """);
        Rows.edge("28: feed: 120 bytes are there in all", """
            29 x feed(-1, 4) ?
            count(2) 116; feed(-1, 4) 120; feed(-1, 1) FULL; feed(-1, 2) FULL; feed(-1, 3) FULL; feed(-1, 4) FULL; count(2) 120
            """);
        Rows.edge("28: feed: FULL: one byte too many, and nothing of it comes", """
            29 x feed(-1, 4) ?
            feed(-1, 1) 117; feed(-1, 4) FULL; count(2) 117; feed(-1, 3) 120
            """);
        Rows.edge("28: feed: FULL: 118 and 119", """
            29 x feed(-1, 4) ?
            feed(-1, 2) 118; feed(-1, 3) FULL; feed(-1, 4) FULL; feed(-1, 1) 119; feed(-1, 2) FULL; feed(-1, 1) 120
            """);
        Rows.edge("28: feed: BEYOND before FULL", """
            30 x feed(-1, 4) ?
            feed(-1, 5) BEYOND; feed(-1, 0) BEYOND; feed(-1, 1) FULL
            """);
        // 6d7273 is mrs, 7f and ff are no bytes of a text.
        Rows.edge("28: feed: the n lowest bytes, the highest of these first", "feed(7172723, 3) 3; green() 1; of(0, 0) 3");
        Rows.edge("28: feed: higher bytes are left out: 1", "type mr\nfeed(-141, 1) 3; green() 1; of(0, 0) 3");
        Rows.edge("28: feed: higher bytes are left out: 2", "type m\nfeed(-36237, 2) 3; green() 1; of(0, 0) 3");
        Rows.edge("28: feed: higher bytes are left out: 3", "feed(-9604493, 3) 3; green() 1; of(0, 0) 3");
        Rows.edge("28: feed: a byte above 127 is one byte", "type mrs\nfeed(-1, 1) 4; green() -4");
        Rows.edge("28: feed: a byte of 0 is one byte", "type mrs\nfeed(0, 4) 7; green() -4");
        Rows.edge("29: wipe: nothing, some and all", """
            wipe() 0; feed(1, 3) 3; wipe() 3; count(2) 0; wipe() 0
            30 x feed(-1, 4) ?
            wipe() 120; count(2) 0; feed(1, 1) 1
            """);
    }

    private static void sheet() {
        Rows.edge("31: sheet: BEYOND: no such sheet", """
            sheet(-1, 8, 1) BEYOND; sheet(4, 8, 1) BEYOND; sheet(LOW, 8, 1) BEYOND; sheet(HIGH, 8, 1) BEYOND; sheet(-1, 0, 0) BEYOND
            sheet(4, 0, 0) BEYOND; sheet(0, 8, 1) 1; sheet(3, 8, 1) 1
            """);
        Rows.edge("31: sheet: SIZE: n is below 0, also with bits 0", """
            sheet(0, 8, -1) SIZE; sheet(0, 16, -1) SIZE; sheet(0, 64, -1) SIZE; sheet(0, 0, -1) SIZE; sheet(0, 8, LOW) SIZE; sheet(0, 0, LOW) SIZE
            sheet(0, 8, 0) 0; write(0, 0, 1) BEYOND
            """);
        Rows.edge("31: sheet: BEYOND: n is above 40, also with bits 0", """
            sheet(0, 8, 41) BEYOND; sheet(0, 16, 41) BEYOND; sheet(0, 64, 41) BEYOND; sheet(0, 0, 41) BEYOND; sheet(0, 0, HIGH) BEYOND
            write(0, 0, 1) MISSING; sheet(0, 8, 40) 40; sheet(0, 16, 40) 40; sheet(0, 64, 40) 40
            """);
        Rows.edge("31: sheet: BEYOND (no such sheet, other bits) before SIZE", """
            sheet(4, 8, -1) BEYOND; sheet(-1, 0, -1) BEYOND; sheet(0, 32, -1) BEYOND; sheet(0, 1, LOW) BEYOND; status(6) 0; sheet(0, 8, -1) SIZE
            """);
        Rows.edge("31: sheet: n, or 0 if it is MISSING", """
            sheet(0, 8, 5) 5; sheet(0, 0, 5) 0; write(0, 0, 1) MISSING; sheet(0, 0, 40) 0; sheet(0, 0, 0) 0; sheet(0, 64, 1) 1
            """);
        Rows.edge("31: sheet: all 0, as it is made again", """
            sheet(0, 64, 40) 40; write(0, 0, 7) 0; write(0, 39, 8) 0; sheet(0, 64, 40) 40; write(0, 0, 0) 0; write(0, 39, 0) 0
            write(0, 1, 9) 0; sheet(0, 0, 0) 0; sheet(0, 8, 2) 2; write(0, 1, 0) 0
            write(0, 1, 9) 0; sheet(0, 8, 1) 1; sheet(0, 8, 2) 2; write(0, 1, 0) 0
            """);
        Rows.edge("31: sheet: one that is refused leaves the sheet as it is", """
            sheet(0, 16, 2) 2; write(0, 1, 300) 0; sheet(0, 8, -1) SIZE; sheet(0, 8, 41) BEYOND; sheet(0, 5, 1) BEYOND; sheet(0, 0, -1) SIZE
            sheet(0, 0, 41) BEYOND; write(0, 1, 301) 300; write(0, 2, 0) BEYOND
            """);
        Rows.edge("31: sheet: empty and not MISSING", """
            sheet(0, 8, 0) 0; write(0, 0, 1) BEYOND; lays(0) 0; book(0) 0; copy(0, 0, 0, 0, 0) 0; status(5) 0
            """);
    }

    private static void write() {
        Rows.edge("32: write: BEYOND: no such sheet", """
            write(-1, 0, 1) BEYOND; write(4, 0, 1) BEYOND; write(LOW, 0, 1) BEYOND; write(HIGH, 0, 1) BEYOND; write(0, 0, 1) MISSING; write(3, 0, 1) MISSING
            """);
        Rows.edge("32: write: MISSING before BEYOND: no such number", "write(0, -1, 1) MISSING; write(0, 40, 1) MISSING; write(4, -1, 1) BEYOND; status(0) 1");
        Rows.edge("32: write: BEYOND: no such number", """
            sheet(0, 8, 3) 3; write(0, -1, 1) BEYOND; write(0, 3, 1) BEYOND; write(0, 40, 1) BEYOND; write(0, LOW, 1) BEYOND; write(0, HIGH, 1) BEYOND
            write(0, 0, 1) 0; write(0, 2, 2) 0; write(0, 0, 0) 1; write(0, 1, 0) 0; write(0, 2, 0) 2
            """);
        Rows.edge("32: write: the lowest 8 bits", """
            sheet(0, 8, 1) 1; write(0, 0, 127) 0; write(0, 0, 128) 127; write(0, 0, -128) -128; write(0, 0, -129) -128; write(0, 0, 255) 127
            write(0, 0, 256) -1; write(0, 0, 257) 0; write(0, 0, HIGHEST) 1; write(0, 0, LOWEST) -1; write(0, 0, 4294967296) 0; write(0, 0, 0) 0
            """);
        Rows.edge("32: write: the lowest 16 bits", """
            sheet(0, 16, 1) 1; write(0, 0, 32767) 0; write(0, 0, 32768) 32767; write(0, 0, -32768) -32768; write(0, 0, -32769) -32768
            write(0, 0, 65535) 32767; write(0, 0, 65536) -1; write(0, 0, 65537) 0; write(0, 0, HIGHEST) 1; write(0, 0, LOWEST) -1
            write(0, 0, 255) 0; write(0, 0, 4294967296) 255; write(0, 0, 0) 0
            """);
        Rows.edge("32: write: all 64 bits", """
            sheet(0, 64, 1) 1; write(0, 0, HIGHEST) 0; write(0, 0, LOWEST) HIGHEST; write(0, 0, -1) LOWEST; write(0, 0, 4294967296) -1; write(0, 0, 0) 4294967296
            """);
        Rows.edge("32: write: a number that looks like a finding is none", """
            sheet(0, 64, 1) 1; write(0, 0, -1000000001) 0; write(0, 0, -1000000007) -1000000001; write(0, 0, 0) -1000000007; status(-1) 0
            """);
    }

    private static void copy() {
        Rows.edge("33: copy: BEYOND: no such sheet (either)", """
            sheet(0, 8, 2) 2; copy(-1, 0, 0, 0, 1) BEYOND; copy(4, 0, 0, 0, 1) BEYOND; copy(0, 0, -1, 0, 1) BEYOND; copy(0, 0, 4, 0, 1) BEYOND
            copy(LOW, 0, HIGH, 0, 1) BEYOND; copy(0, 0, 0, 1, 1) 1
            """);
        Rows.edge("33: copy: MISSING: one is, or both", """
            sheet(0, 8, 2) 2; copy(0, 0, 1, 0, 1) MISSING; copy(1, 0, 0, 0, 1) MISSING; copy(1, 0, 1, 0, 1) MISSING; copy(3, 0, 2, 0, 0) MISSING
            """);
        Rows.edge("33: copy: KIND: they are not of as many bits", """
            sheet(0, 8, 2) 2; sheet(1, 16, 2) 2; sheet(2, 64, 2) 2; copy(0, 0, 1, 0, 1) KIND; copy(1, 0, 0, 0, 1) KIND; copy(1, 0, 2, 0, 1) KIND
            copy(2, 0, 0, 0, 0) KIND; sheet(3, 8, 1) 1; copy(0, 0, 3, 0, 1) 1
            """);
        Rows.edge("33: copy: BEYOND: one has not so many", """
            sheet(0, 8, 3) 3; sheet(1, 8, 2) 2; write(0, 0, 1) 0; write(0, 1, 2) 0; write(0, 2, 3) 0
            copy(0, 0, 1, 0, 3) BEYOND; copy(1, 0, 0, 0, 3) BEYOND; copy(0, 2, 1, 0, 2) BEYOND; copy(0, 0, 1, 1, 2) BEYOND; copy(0, 3, 1, 0, 1) BEYOND
            copy(0, 0, 1, 2, 1) BEYOND; copy(0, 4, 1, 0, 0) BEYOND; copy(0, 0, 1, 3, 0) BEYOND
            copy(0, HIGH, 1, 0, 1) BEYOND; copy(0, 1, 1, 0, HIGH) BEYOND; copy(0, 0, 1, HIGH, HIGH) BEYOND; copy(0, HIGH, 1, HIGH, HIGH) BEYOND
            copy(0, 1, 1, 0, 2) 2; write(1, 0, 0) 2; write(1, 1, 0) 3
            """);
        Rows.edge("33: copy: BEYOND: from, to or n is below 0", """
            sheet(0, 8, 3) 3; sheet(1, 8, 3) 3; copy(0, -1, 1, 0, 1) BEYOND; copy(0, 0, 1, -1, 1) BEYOND; copy(0, 0, 1, 0, -1) BEYOND
            copy(0, -1, 1, -1, -1) BEYOND; copy(0, LOW, 1, 0, 0) BEYOND; copy(0, 0, 1, LOW, 0) BEYOND; copy(0, 0, 1, 0, LOW) BEYOND
            copy(0, LOW, 1, LOW, LOW) BEYOND; copy(0, -1, 1, 0, 0) BEYOND; copy(0, 0, 1, -1, 0) BEYOND; copy(0, 1, 1, 1, -1) BEYOND
            """);
        Rows.edge("33: copy: BEYOND (no such sheet), MISSING, KIND, BEYOND in this order", """
            copy(0, -1, 4, -1, -1) BEYOND; copy(-1, 0, 0, 0, 0) BEYOND; copy(0, -1, 1, -1, -1) MISSING
            sheet(0, 8, 1) 1; copy(0, -1, 1, -1, -1) MISSING; copy(1, 9, 0, 9, 9) MISSING; copy(4, 0, 1, 0, 0) BEYOND
            sheet(1, 16, 1) 1; copy(0, -1, 1, -1, -1) KIND; copy(0, 9, 1, 9, 9) KIND; copy(4, 0, 1, 0, 0) BEYOND; copy(0, 0, 2, 0, 0) MISSING
            sheet(1, 8, 1) 1; copy(0, -1, 1, -1, -1) BEYOND; status(0) 5
            """);
        Rows.edge("33: copy: none and all", """
            sheet(0, 64, 40) 40; sheet(1, 64, 40) 40; write(0, 0, 5) 0; write(0, 39, 6) 0; copy(0, 0, 1, 0, 0) 0; copy(0, 40, 1, 40, 0) 0
            write(1, 0, 0) 0; copy(0, 0, 1, 0, 40) 40; write(1, 0, 0) 5; write(1, 39, 0) 6; copy(0, 0, 1, 0, 41) BEYOND
            sheet(2, 8, 0) 0; sheet(3, 8, 0) 0; copy(2, 0, 3, 0, 0) 0; copy(2, 0, 3, 0, 1) BEYOND
            """);
        Rows.edge("33: copy: as they all were, upwards in one sheet", """
            sheet(0, 8, 4) 4; write(0, 0, 1) 0; write(0, 1, 2) 0; write(0, 2, 3) 0; write(0, 3, 4) 0; copy(0, 0, 0, 1, 3) 3
            write(0, 0, 0) 1; write(0, 1, 0) 1; write(0, 2, 0) 2; write(0, 3, 0) 3
            """);
        Rows.edge("33: copy: as they all were, downwards in one sheet", """
            sheet(0, 8, 4) 4; write(0, 0, 1) 0; write(0, 1, 2) 0; write(0, 2, 3) 0; write(0, 3, 4) 0; copy(0, 1, 0, 0, 3) 3
            write(0, 0, 0) 2; write(0, 1, 0) 3; write(0, 2, 0) 4; write(0, 3, 0) 4
            """);
        Rows.edge("33: copy: the numbers beside them stay", """
            sheet(0, 16, 3) 3; sheet(1, 16, 3) 3; write(0, 1, -7) 0; write(1, 0, 8) 0; write(1, 2, 9) 0; copy(0, 1, 1, 1, 1) 1
            write(1, 0, 0) 8; write(1, 1, 0) -7; write(1, 2, 0) 9; write(0, 1, 0) -7
            """);
    }

    private static void lays() {
        Rows.edge("34: lays: BEYOND: no such sheet, MISSING", """
            lays(-1) BEYOND; lays(4) BEYOND; lays(LOW) BEYOND; lays(HIGH) BEYOND; lays(0) MISSING; lays(3) MISSING; sheet(3, 8, 1) 1; lays(3) 0
            """);
        Rows.edge("34: lays: those that aren't 0 to 99 are left out", """
            8 x mother(0) ?
            sheet(0, 64, 8) 8; write(0, 0, -1) 0; write(0, 1, 0) 0; write(0, 2, 99) 0; write(0, 3, 100) 0; write(0, 4, LOWEST) 0; write(0, 5, HIGHEST) 0
            write(0, 6, 4294967301) 0; write(0, 7, -4294967295) 0; lays(0) 2
            of(0, 2) 10; of(1, 2) 0; of(2, 2) 99; of(3, 2) 10; of(4, 2) 10; of(5, 2) 10; of(6, 2) 10; of(7, 2) 10
            """);
        Rows.edge("34: lays: those that stand for none are left out", """
            sheet(0, 8, 3) 3; write(0, 0, 5) 0; write(0, 1, 6) 0; write(0, 2, 7) 0; lays(0) 0; mother(0) 0; lays(0) 1; mother(0) 1; lays(0) 2
            of(0, 2) 5; of(1, 2) 6; mother(0) 2; lays(0) 3; of(2, 2) 7; mother(0) 3; lays(0) 3; of(3, 2) 10
            """);
        Rows.edge("34: lays: all 40 numbers, 8 mothers", """
            8 x mother(3) ?
            sheet(0, 8, 40) 40; lays(0) 8; of(0, 2) 0; of(7, 2) 0; count(0) 8
            """);
        Rows.edge("34: lays: an empty sheet", "mother(0) 0; sheet(0, 8, 0) 0; lays(0) 0; of(0, 2) 10");
        Rows.edge("34: lays: 200 in 8 bits is none of 0 to 99, 300 in 8 bits is 44", """
            mother(0) 0; mother(0) 1; sheet(0, 8, 2) 2; write(0, 0, 200) 0; write(0, 1, 300) 0; lays(0) 1; of(0, 2) 10; of(1, 2) 44
            """);
        Rows.edge("34: lays: OUT and SILENT stay", """
            mother(0) 0; out(0, 1) 0; set(0, 3, 7) 0; sheet(0, 8, 1) 1; write(0, 0, 50) 0; lays(0) 1; of(0, 1) 1; of(0, 2) 50; of(0, 3) 7
            """);
    }

    private static void book() {
        Rows.edge("35: book: BEYOND: no such sheet, MISSING", """
            book(-1) BEYOND; book(4) BEYOND; book(LOW) BEYOND; book(HIGH) BEYOND; book(0) MISSING; book(3) MISSING; sheet(3, 8, 1) 1; book(3) 1
            """);
        Rows.edge("35: book: as many as it has numbers, 0 and 1", """
            iron(1, 100) 0; sheet(0, 8, 0) 0; book(0) 0; sheet(1, 8, 1) 1; book(1) 1; write(1, 0, 0) 100
            """);
        Rows.edge("35: book: as many as it has numbers, 40", """
            iron(1, 30) 0; sheet(0, 8, 40) 40; book(0) 40; write(0, 0, 0) 30; write(0, 1, 0) 27; write(0, 2, 0) 25; write(0, 5, 0) 19
            write(0, 23, 0) 1; write(0, 24, 0) 0; write(0, 39, 0) 0; now(0) 0; now(4) 30
            """);
        Rows.edge("35: book: the last of 40 numbers is 39 MINUTES AHEAD", """
            mother(3) 0; set(0, 2, 25) 10; out(0, 1) 0; iron(0, 25) 10; sheet(0, 16, 40) 40; book(0) 40
            write(0, 0, 0) 0; write(0, 1, 0) 1; write(0, 19, 0) 19; write(0, 20, 0) 20; write(0, 39, 0) 20
            """);
        Rows.edge("35: book: a full sheet, and the one beside it stays", """
            iron(1, 200) 0; sheet(0, 16, 40) 40; sheet(1, 16, 1) 1; write(1, 0, 7) 0; book(0) 40; write(1, 0, 0) 7
            sheet(3, 16, 40) 40; book(3) 40; write(3, 0, 0) 200; write(3, 1, 0) 180
            """);
        Rows.edge("35: book: its lowest bits, where SPEED is above 127 in 8", """
            iron(1, 142) 0; sheet(0, 8, 2) 2; book(0) 2; write(0, 0, 0) -114; write(0, 1, 0) -128
            iron(1, 141) 142; book(0) 2; write(0, 0, 0) -115; write(0, 1, 0) 127
            iron(1, 200) 141; book(0) 2; write(0, 0, 0) -56; write(0, 1, 0) -76
            """);
        Rows.edge("35: book: SPEED above 127 in 16 and 64 bits", """
            iron(1, 200) 0; sheet(0, 16, 1) 1; sheet(1, 64, 1) 1; book(0) 1; book(1) 1; write(0, 0, 0) 200; write(1, 0, 0) 200
            """);
    }

    private static void read() {
        Rows.edge("36: read: BEYOND: no such sheet, MISSING, BEYOND: mother, in this order", """
            read(-1, 0) BEYOND; read(4, 0) BEYOND; read(LOW, 0) BEYOND; read(HIGH, 0) BEYOND; read(0, 0) MISSING; read(3, -1) MISSING; status(0) 4
            sheet(0, 8, 1) 1; read(0, 0) BEYOND; read(1, 0) MISSING; mother(0) 0; read(0, 0) 600; read(0, 1) BEYOND; read(0, -1) BEYOND
            read(0, LOW) BEYOND; read(0, HIGH) BEYOND; read(4, 1) BEYOND; read(1, 1) MISSING
            """);
        Rows.edge("36: read: an empty sheet: all 600 pairs", "mother(3) 0; out(0, 1) 0; sheet(0, 8, 0) 0; read(0, 0) 600");
        Rows.edge("36: read: one number, SPEED now: all pairs or none", """
            mother(3) 0; out(0, 1) 0; sheet(0, 8, 1) 1; read(0, 0) 600; write(0, 0, 1) 0; read(0, 0) 0; iron(1, 1) 0; read(0, 0) 600
            """);
        // 2 by 1, 1 less: a Mrs of 1, a mother of 10 to 14, an aunt or a gran of 4 or 5.
        Rows.edge("36: read: pairs of a KIND and a SECRET", """
            mother(3) 0; set(0, 2, 1) 10; out(0, 1) 0; iron(0, 1) 10; sheet(0, 8, 2) 2; book(0) 2; read(0, 0) 10; of(0, 0) 3; of(0, 2) 1
            """);
        // 198 by 1, 1 less is 197: a Mrs of 99 alone.
        Rows.edge("36: read: the last SECRET, 99", """
            mother(3) 0; set(0, 2, 99) 10; out(0, 1) 0; iron(0, 1) 10; sheet(0, 16, 2) 2; book(0) 2; write(0, 1, 197) 197; read(0, 0) 1
            write(0, 1, 196) 197; read(0, 0) 0; write(0, 1, 195) 196; read(0, 0) 1; write(0, 1, 199) 195; read(0, 0) 0
            """);
        // It stands with 0 or 1 by 1: a mother of 0 to 9, an aunt or a gran of 0 to 3, a Mrs of 0, a gossip or a bride of any.
        Rows.edge("36: read: the first SECRET, 0", """
            mother(3) 0; out(0, 1) 0; iron(0, 1) 10; sheet(0, 8, 2) 2; read(0, 0) 219
            """);
        Rows.edge("36: read: a number in 8 bits is never above 127", """
            mother(3) 0; out(0, 1) 0; iron(1, 128) 0; sheet(0, 8, 1) 1; book(0) 1; read(0, 0) 0; iron(1, 127) 128; book(0) 1; read(0, 0) 600
            sheet(0, 16, 1) 1; iron(1, 200) 127; book(0) 1; read(0, 0) 600
            """);
        Rows.edge("36: read: a number is compared with all its 64 bits", """
            mother(3) 0; sheet(0, 64, 1) 1; write(0, 0, 4294967296) 0; read(0, 0) 0; write(0, 0, LOWEST) 4294967296; read(0, 0) 0
            write(0, 0, 0) LOWEST; read(0, 0) 600
            """);
        Rows.edge("36: read: all 40 numbers count", """
            mother(3) 0; sheet(0, 8, 40) 40; read(0, 0) 600; write(0, 39, 1) 0; read(0, 0) 0; write(0, 39, 0) 1; read(0, 0) 600
            """);
        Rows.edge("36: read: one that is in: all pairs or none", """
            mother(3) 0; mother(3) 1; out(1, 1) 0; sheet(0, 8, 3) 3; book(0) 3; read(0, 0) 600; write(0, 2, 7) 2; read(0, 0) 0
            """);
    }

    private static void images() {
        Rows.edge("37: image: 1, the first and again", "image() 1; image() 1; tear() 1");
        Rows.edge("38: undo: NONE: nothing is kept", "undo() NONE; image() 1; undo() 0; tear() 1; undo() NONE");
        Rows.edge("38: undo: how many MOTHERS, none and all", """
            image() 1; mother(0) 0; undo() 0; count(0) 0
            8 x mother(0) ?
            image() 1; undo() 8; count(0) 8; mother(0) FULL
            """);
        Rows.edge("38: undo: what was kept stays", "mother(0) 0; image() 1; mother(0) 1; undo() 1; mother(0) 1; mother(0) 2; undo() 1; undo() 1; tear() 1");
        Rows.edge("38: undo: what was kept latest", """
            mother(0) 0; image() 1; mother(0) 1; image() 1; mother(0) 2; undo() 2; tear() 1; undo() NONE; count(0) 2
            """);
        Rows.edge("38: undo: what was kept doesn't go on with what there is", """
            mother(3) 0; out(0, 1) 0; child(9) 0; ride(0, 1) 1; image() 1; set(0, 2, 50) 10; grip(0, 3) 9; minutes(20) ?
            undo() 1; of(0, 2) 10; childOf(0, 0) 9; set(0, 2, 60) 10; ride(0, 0) 0; undo() 1; of(0, 2) 10; now(9) 1
            """);
        Rows.edge("38: undo: THE TAPE not", "type mr\nimage() 1\ntype s\nundo() 0; count(2) 3; green() 1; undo() 0; wipe() 0");
        Rows.edge("38: undo: SHEETS not", "sheet(0, 8, 1) 1; image() 1; write(0, 0, 5) 0; sheet(1, 8, 1) 1; undo() 0; write(0, 0, 0) 5; write(1, 0, 0) 0");
        Rows.edge("38: undo: a child that came since is away, and comes anew", """
            child(5) 0; image() 1; child(9) 1; ride(1, 1) 1; iron(1, 50) 0; minutes(1) 45; childOf(1, 2) 1; undo() 0; count(1) 1; childOf(1, 0) BEYOND
            child(7) 1; childOf(1, 0) 7; childOf(1, 1) 0; childOf(1, 2) 0; count(3) 0
            """);
        Rows.edge("38: undo: a mother that came since is away, and comes anew", """
            image() 1; mother(3) 0; out(0, 1) 0; set(0, 2, 99) 10; set(0, 3, 99) 0; undo() 0; of(0, 0) BEYOND
            mother(0) 0; of(0, 0) 0; of(0, 1) 0; of(0, 2) 10; of(0, 3) 0
            """);
        allComesBack();
        Rows.edge("39: tear: 1 if something was, else 0", "tear() 0; image() 1; tear() 1; tear() 0; image() 1; image() 1; tear() 1; tear() 0");
        Rows.edge("39: tear: what there is stays", "mother(0) 0; image() 1; mother(0) 1; tear() 1; count(0) 2");
    }

    /** Each number of section 1 by itself: changed after the image, it comes back. */
    private static void allComesBack() {
        String green = """
            minutes(7) 0; rain(9) 0; iron(0, 33) 10; iron(1, 44) 0; mother(4) 0; mother(5) 1; out(0, 1) 0; set(0, 3, 5) 0; set(0, 2, 66) 10
            child(100) 0; child(0) 1; ride(0, 1) 1; ride(1, 1) 2; minutes(1) 40; image() 1
            """;
        String[][] changes = {
            {"MINUTE, TURNED", "rain(31) 9; minutes(1) ?; rain(9) 31; iron(1, 40) ?"},
            {"RAIN", "rain(22) 9"}, {"HEAVY", "iron(0, 1) 33"}, {"SPEED", "iron(1, 0) 40"},
            {"MOTHERS", "mother(0) 2"}, {"KIND", "turn(0, 2) 4"}, {"OUT", "out(1, 1) 0"}, {"SECRET", "set(0, 2, 1) 66"},
            {"SILENT", "set(1, 3, 8) 0"}, {"CHILDREN", "child(8) 2"}, {"GRIP", "grip(1, 8) 0"}, {"ON", "ride(0, 0) 0"},
            {"FLUNG", "ride(1, 1) 2; minutes(1) ?"}, {"all of a text", "text 3 mrs out;rain 1;heavy 9"},
            {"SECRETS that were laid", "sheet(0, 8, 2) 2; write(0, 0, 0) 0; lays(0) 2; sheet(0, 0, 0) 0"}};
        for (String[] change : changes) {
            Rows.edge("38: undo: " + change[0] + " comes back", green + change[1] + "\nundo() 2");
            Rows.same("38: undo: " + change[0] + " comes back", green + change[1] + "\nundo() 2", green);
        }
    }

    private static void count() {
        Rows.edge("40: count: BEYOND: another what", "count(-1) BEYOND; count(4) BEYOND; count(LOW) BEYOND; count(HIGH) BEYOND; count(0) 0; count(3) 0");
        Rows.edge("40: count: MOTHERS", """
            count(0) 0; mother(0) 0; count(0) 1
            7 x mother(0) ?
            count(0) 8; count(1) 0
            """);
        Rows.edge("40: count: CHILDREN", """
            count(1) 0; child(0) 0; count(1) 1
            5 x child(0) ?
            count(1) 6; count(0) 0
            """);
        Rows.edge("40: count: bytes of THE TAPE", """
            count(2) 0; feed(0, 1) 1; count(2) 1; feed(0, 3) 4
            29 x feed(0, 4) ?
            count(2) 120; green() -1; count(2) 0
            """);
        Rows.edge("40: count: FLUNG of all together", """
            child(0) 0; child(0) 1; child(200) 2; count(3) 0; ride(0, 1) 1; ride(1, 1) 2; ride(2, 1) 3; iron(1, 100) 0
            minutes(1) 90; count(3) 2; ride(1, 1) 2; minutes(1) 81; count(3) 3
            """);
    }

    private static void status() {
        Rows.edge("41: status: which -1 to 6", "status(-1) 0; status(0) 0; status(1) 0; status(2) 0; status(3) 0; status(4) 0; status(5) 0; status(6) 0");
        Rows.edge("41: status: BEYOND (counted from then on): another one", """
            status(7) BEYOND; status(-1) 1; status(0) 1; status(-2) BEYOND; status(0) 2; status(LOW) BEYOND; status(HIGH) BEYOND; status(0) 4; status(-1) 4
            """);
        Rows.longEdge("41: status: each finding for itself, and all", """
            now(10) BEYOND; status(0) 1; undo() NONE; status(3) 1; lays(0) MISSING; status(5) 1; sheet(0, 8, -1) SIZE; status(6) 1
            mother(0) 0; as(0, 1) KIND; status(2) 1
            7 x mother(0) ?
            mother(0) FULL; status(1) 1; status(4) 0; status(-1) 6
            999 x minutes(100) 0
            minutes(100) STATE; status(4) 1; status(-1) 7
            status(0) 1; status(1) 1; status(2) 1; status(3) 1; status(5) 1; status(6) 1
            """);
        Rows.edge("41: status: undo() takes none back, nor does tear()", "image() 1; now(10) BEYOND; undo() 0; status(0) 1; tear() 1; status(0) 1; undo() NONE; status(-1) 2");
        Rows.edge("41: status: a FAULT is no finding", "text -1 x\nstatus(-1) 0");
        Rows.edge("41: status: a finding in longs is counted, too", "write(9, 0, 0) BEYOND; write(0, 0, 0) MISSING; status(-1) 2; status(0) 1; status(5) 1");
    }
}
