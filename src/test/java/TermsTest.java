/** The edges that the document's Terms name, a run of its own for each sentence; worked out by hand. */
public final class TermsTest {
    private TermsTest() {
    }

    public static void main(String[] args) {
        minute();
        rain();
        iron();
        turned();
        mothers();
        children();
        keeps();
        speaks();
        tells();
        weight();
        push();
        speed();
        grips();
        words();
        ahead();
        sheets();
        Rows.end();
    }

    private static void minute() {
        Rows.edge("MINUTE: 0 at first", "now(0) 0; now(1) 0");
        Rows.longEdge("MINUTE: 99999 at most", """
            998 x minutes(100) 0
            minutes(99) 0; now(0) 99899
            minutes(100) 0; now(0) 99999
            minutes(1) STATE; minutes(100) STATE; now(0) 99999
            """);
        Rows.edge("of the day: its rest by 50", """
            minutes(1) 0; now(1) 1
            minutes(48) 0; now(0) 49; now(1) 49
            minutes(1) 0; now(0) 50; now(1) 0
            minutes(99) 0; now(0) 149; now(1) 49
            minutes(1) 0; now(0) 150; now(1) 0
            """);
        Rows.edge("NIGHT: of the day 40 and more", """
            now(2) 0
            minutes(39) 0; now(2) 0
            minutes(1) 0; now(2) 1
            minutes(9) 0; now(2) 1
            minutes(1) 0; now(2) 0
            minutes(39) 0; now(2) 0
            minutes(1) 0; now(2) 1
            """);
    }

    private static void rain() {
        Rows.edge("RAIN: none at first", "now(3) 0; rain(0) 0");
        Rows.edge("RAIN: the minute of the day by 10, part 0", """
            rain(1) 0; now(3) 1
            minutes(9) 0; now(3) 1
            minutes(1) 0; now(3) 0
            minutes(39) 0; now(3) 0
            minutes(1) 0; now(3) 1
            """);
        for (int part = 1; part <= 4; part++) {
            Rows.edge("RAIN: the minute of the day by 10, part " + part,
                "rain(" + (1 << part) + ") 0; now(3) 0; minutes(" + (10 * part - 1) + ") 0; now(3) 0\n"
                + "minutes(1) 0; now(3) 1; minutes(9) 0; now(3) 1; minutes(1) 0; now(3) 0\n"
                + "minutes(39) 0; now(3) 0; minutes(1) 0; now(3) 1");
        }
        Rows.edge("RAIN: in those nobody turns it", """
            mother(3) 0; set(0, 2, 50) 10; out(0, 1) 0; now(7) 100
            rain(1) 0; now(7) 0
            minutes(1) 0; minutes(8) 0; now(7) 0
            minutes(1) 0; now(7) 100
            minutes(1) 9
            """);
    }

    private static void iron() {
        Rows.edge("HEAVY: 10 at first", "now(6) 10; iron(0, 10) 10");
        Rows.edge("HEAVY: 1 to 50", """
            iron(0, 1) 10; iron(0, 0) BEYOND; iron(0, -1) BEYOND; iron(0, LOW) BEYOND; now(6) 1
            iron(0, 50) 1; iron(0, 51) BEYOND; iron(0, HIGH) BEYOND; now(6) 50
            """);
        Rows.edge("SPEED: 0 at first", "now(4) 0; iron(1, 0) 0");
        Rows.edge("SPEED: 0 to 200", """
            iron(1, 200) 0; iron(1, 201) BEYOND; iron(1, HIGH) BEYOND; now(4) 200
            iron(1, 0) 200; iron(1, -1) BEYOND; iron(1, LOW) BEYOND; now(4) 0
            """);
    }

    private static void turned() {
        Rows.edge("TURNED: 0 at first", "now(5) 0; iron(1, 200) 0; now(5) 0");
        Rows.edge("TURNED: all SPEEDS so far", """
            iron(1, 10) 0
            minutes(1) 9; now(5) 9
            minutes(2) 7; now(5) 24
            minutes(7) 0; now(5) 45
            minutes(100) 0; now(5) 45
            """);
        String nearly = """
            mother(3) 0; out(0, 1) 0; set(0, 2, 99) 10; iron(0, 1) 10; iron(1, 200) 0
            49 x minutes(100) 200
            minutes(99) 200; now(5) 999800
            """;
        // 200 and 36 by 2, 20 less, is 198; then 1, with which it is the most that may be.
        Rows.edge("TURNED: 999999 may be, and is held", nearly + """
            iron(0, 2) 1; set(0, 2, 18) 99; minutes(1) 198; now(5) 999998
            out(0, 0) 1; iron(1, 2) 198; on(1, 1) 999999; minutes(1) 1; now(5) 999999
            iron(1, 2) 1; on(1, 1) 999999; minutes(1) 1; now(5) 999999
            """);
        Rows.edge("TURNED: held to 999999 from one minute to the next", nearly + """
            on(1, 1) 999999; on(200, 1) 999999
            minutes(1) 200; now(5) 999999
            minutes(100) 200; now(5) 999999
            """);
        Rows.edge("TURNED: held, all are alike, and of several it is the least", nearly + """
            minutes(1) 200
            mother(3) 1; out(1, 1) 0; send(60) 0; kind(1, 60) 0; weather(60) 0
            """);
    }

    private static void mothers() {
        Rows.edge("MOTHERS: none at first", "count(0) 0; of(0, 0) BEYOND");
        Rows.edge("MOTHERS: at most 8", """
            mother(0) 0; mother(1) 1; mother(2) 2; mother(3) 3; mother(4) 4; mother(5) 5; mother(0) 6
            count(0) 7; of(7, 0) BEYOND
            mother(1) 7; count(0) 8; of(7, 0) 1
            mother(0) FULL; count(0) 8; of(8, 0) BEYOND
            """);
        for (int kind = 0; kind < 6; kind++) {
            Rows.edge("MOTHERS: in, SECRET 10 and SILENT 0 at first, kind " + kind,
                "mother(" + kind + ") 0; of(0, 0) " + kind + "; of(0, 1) 0; of(0, 2) 10; of(0, 3) 0; now(8) 0");
        }
        Rows.edge("SECRET: 0 to 99", """
            mother(0) 0
            set(0, 2, 99) 10; set(0, 2, 100) BEYOND; set(0, 2, HIGH) BEYOND; of(0, 2) 99
            set(0, 2, 0) 99; set(0, 2, -1) BEYOND; set(0, 2, LOW) BEYOND; of(0, 2) 0
            """);
        Rows.edge("SILENT: minutes that she has been OUT without a word", """
            mother(3) 0; minutes(5) 0; of(0, 3) 0
            out(0, 1) 0; minutes(1) 1; of(0, 3) 1; minutes(2) 3; of(0, 3) 3
            out(0, 0) 1; of(0, 3) 0; minutes(5) 0; of(0, 3) 0
            """);
        Rows.edge("SILENT: held to 999", """
            mother(3) 0; out(0, 1) 0; set(0, 3, 998) 0
            then(0, 1, 1) 999; then(0, 2, 1) 999; then(0, 200, 1) 999
            minutes(1) 1; of(0, 3) 999
            minutes(1) 2; of(0, 3) 999
            minutes(100) 20; of(0, 3) 999
            """);
        Rows.edge("SILENT: 0 to 999 where it is set", """
            mother(0) 0
            set(0, 3, 999) 0; set(0, 3, 1000) BEYOND; set(0, 3, HIGH) BEYOND; of(0, 3) 999
            set(0, 3, 0) 999; set(0, 3, -1) BEYOND; set(0, 3, LOW) BEYOND; of(0, 3) 0
            """);
    }

    private static void children() {
        Rows.edge("CHILDREN: none at first", "count(1) 0; childOf(0, 0) BEYOND");
        Rows.edge("CHILDREN: at most 6", """
            child(1) 0; child(2) 1; child(3) 2; child(4) 3; child(5) 4
            count(1) 5; childOf(5, 0) BEYOND
            child(6) 5; count(1) 6; childOf(5, 0) 6
            child(7) FULL; count(1) 6; childOf(6, 0) BEYOND
            """);
        Rows.edge("GRIP: 0 to 200", """
            child(0) 0; child(-1) BEYOND; child(200) 1; child(201) BEYOND; count(1) 2
            grip(0, 200) 0; grip(0, 201) BEYOND; childOf(0, 0) 200
            grip(1, 0) 200; grip(1, -1) BEYOND; childOf(1, 0) 0
            """);
        Rows.edge("ON: not at first; FLUNG: 0 at first", "child(9) 0; childOf(0, 1) 0; childOf(0, 2) 0; now(9) 0; count(3) 0");
        Rows.edge("FLUNG: how often", """
            child(0) 0; child(0) 1; iron(1, 100) 0
            ride(0, 1) 1; minutes(1) 90; childOf(0, 2) 1; childOf(1, 2) 0
            ride(0, 1) 1; ride(1, 1) 2; minutes(1) 81; childOf(0, 2) 2; childOf(1, 2) 1; count(3) 3
            minutes(1) 73; count(3) 3
            """);
        // The iron is turned by 20 all along, at a speed of 20 in the end, which a grip of 0 never holds.
        Rows.longEdge("FLUNG: held to 9999", """
            mother(3) 0; out(0, 1) 0; child(0) 0; iron(1, 20) 0
            9998 x ride(0, 1) 1; minutes(1) ?
            childOf(0, 2) 9998
            ride(0, 1) 1; minutes(1) ?; childOf(0, 2) 9999; childOf(0, 1) 0
            ride(0, 1) 1; minutes(1) ?; childOf(0, 2) 9999; childOf(0, 1) 0; count(3) 9999
            """);
    }

    private static void keeps() {
        Rows.edge("KEEPS, MOTHER: SECRET by 5 (cut), and t", """
            mother(0) 0; of(0, 4) 2
            set(0, 2, 0) 10; of(0, 4) 0
            set(0, 2, 4) 0; of(0, 4) 0
            set(0, 2, 5) 4; of(0, 4) 1
            set(0, 2, 99) 5; of(0, 4) 19
            set(0, 3, 1) 0; of(0, 4) 20
            set(0, 3, 999) 1; of(0, 4) 1018
            """);
        Rows.edge("KEEPS, AUNT: SECRET by 2 (cut), and t", """
            mother(1) 0; of(0, 4) 5
            set(0, 2, 0) 10; of(0, 4) 0
            set(0, 2, 1) 0; of(0, 4) 0
            set(0, 2, 2) 1; of(0, 4) 1
            set(0, 2, 99) 2; of(0, 4) 49
            set(0, 3, 999) 0; of(0, 4) 1048
            minutes(40) 0; now(2) 1; of(0, 4) 1048
            """);
        Rows.edge("KEEPS, GOSSIP: as MOTHER, but 0, if o is 0; she is no other herself", """
            mother(2) 0; mother(0) 1; set(0, 2, 99) 10; set(0, 3, 999) 0; of(0, 4) 0
            out(0, 1) 0; set(0, 3, 999) 0; of(0, 4) 0; now(7) 0
            out(1, 1) 0; of(0, 4) 1018; now(7) 1020
            out(0, 0) 1; of(0, 4) 19
            """);
        Rows.edge("KEEPS, MRS: twice SECRET", """
            mother(3) 0; of(0, 4) 20; set(0, 3, 999) 0; of(0, 4) 20
            set(0, 2, 0) 10; of(0, 4) 0; set(0, 2, 99) 0; of(0, 4) 198
            """);
        Rows.edge("KEEPS, GRAN: as AUNT, and 10 in the NIGHT", """
            mother(4) 0; set(0, 2, 99) 10; of(0, 4) 49; set(0, 3, 7) 0; of(0, 4) 56
            minutes(39) 0; of(0, 4) 56
            minutes(1) 0; of(0, 4) 66
            minutes(9) 0; of(0, 4) 66
            minutes(1) 0; of(0, 4) 56
            """);
        Rows.edge("KEEPS, BRIDE: as GOSSIP, and 3 for each other that is OUT", """
            mother(5) 0; set(0, 3, 4) 0; of(0, 4) 0
            7 x mother(3) ?
            of(0, 4) 0
            out(1, 1) 0; of(0, 4) 9
            out(2, 1) 0; of(0, 4) 12
            out(3, 1) 0; out(4, 1) 0; out(5, 1) 0; out(6, 1) 0; out(7, 1) 0; of(0, 4) 27
            out(0, 1) 0; of(0, 4) 23; now(7) 163
            out(3, 0) 1; of(0, 4) 20; now(7) 140
            """);
    }

    private static void speaks() {
        Rows.edge("SPEAKS, MOTHER: if t is 9 or more", """
            mother(0) 0; of(0, 5) 0; iron(1, 200) 0
            set(0, 3, 8) 0; of(0, 5) 0
            set(0, 3, 9) 8; of(0, 5) 1
            set(0, 3, 999) 9; of(0, 5) 1
            """);
        Rows.edge("SPEAKS, AUNT: if t is 15 or more", """
            mother(1) 0; of(0, 5) 0; iron(1, 200) 0
            set(0, 3, 14) 0; of(0, 5) 0
            set(0, 3, 15) 14; of(0, 5) 1
            set(0, 3, 999) 15; of(0, 5) 1
            minutes(40) 3; now(2) 1; of(0, 5) 1
            """);
        Rows.edge("SPEAKS, GOSSIP: if t is 3 or more, and o above 0", """
            mother(2) 0; mother(3) 1; out(0, 1) 0; iron(1, 200) 0
            set(0, 3, 999) 0; of(0, 5) 0
            out(1, 1) 0; of(0, 5) 1
            set(0, 3, 3) 999; of(0, 5) 1
            set(0, 3, 2) 3; of(0, 5) 0
            """);
        Rows.edge("SPEAKS, MRS: never", """
            mother(3) 0; mother(3) 1; out(1, 1) 0; iron(1, 200) 0; of(0, 5) 0
            set(0, 3, 999) 0; of(0, 5) 0
            """);
        Rows.edge("SPEAKS, GRAN: as AUNT, but not in the NIGHT", """
            mother(4) 0; iron(1, 200) 0
            set(0, 3, 14) 0; of(0, 5) 0
            set(0, 3, 15) 14; of(0, 5) 1
            minutes(39) 4; of(0, 5) 1
            minutes(1) 3; of(0, 5) 0
            set(0, 3, 999) 15; of(0, 5) 0
            minutes(9) 0; of(0, 5) 0
            minutes(1) 0; of(0, 5) 1
            """);
        Rows.edge("SPEAKS, BRIDE: as GOSSIP, or if SPEED is above 100", """
            mother(5) 0; mother(3) 1; out(0, 1) 0
            set(0, 3, 999) 0; iron(1, 100) 0; of(0, 5) 0
            iron(1, 101) 100; of(0, 5) 1
            set(0, 3, 0) 999; of(0, 5) 1
            iron(1, 100) 101; out(1, 1) 0
            set(0, 3, 2) 0; of(0, 5) 0
            set(0, 3, 3) 2; of(0, 5) 1
            """);
    }

    private static void tells() {
        Rows.edge("TELLS of each kind", """
            mother(0) 0; mother(1) 1; mother(2) 2; mother(3) 3; mother(4) 4; mother(5) 5
            of(0, 6) 3; of(1, 6) 2; of(2, 6) 6; of(3, 6) 0; of(4, 6) 2; of(5, 6) 7
            """);
        // Each with just what she tells, with 1 less and with 1 more.
        int[] kinds = {0, 1, 2, 4, 5};
        int[] tells = {3, 2, 6, 2, 7};
        for (int i = 0; i < kinds.length; i++) {
            String start = "mother(" + kinds[i] + ") 0; mother(3) 1; out(0, 1) 0; out(1, 1) 0; set(0, 3, 15) 0; set(0, 2, ";
            Rows.edge("SECRET is what she TELLS less, kind " + kinds[i],
                start + (tells[i] + 1) + ") 10; minutes(1) ?; of(0, 2) 1; of(0, 3) 0");
            Rows.edge("SECRET, what she TELLS less, is 0, kind " + kinds[i],
                start + tells[i] + ") 10; minutes(1) ?; of(0, 2) 0; of(0, 3) 0");
            Rows.edge("SECRET is 0 at least, kind " + kinds[i],
                start + (tells[i] - 1) + ") 10; minutes(1) ?; of(0, 2) 0; of(0, 3) 0");
            Rows.edge("SECRET of 0 stays, but she speaks, kind " + kinds[i],
                start + "0) 10; minutes(1) ?; of(0, 2) 0; of(0, 3) 0");
        }
        Rows.edge("SILENT is 1 more, if she doesn't speak", """
            mother(0) 0; out(0, 1) 0; set(0, 3, 8) 0
            minutes(1) 0; of(0, 3) 9; of(0, 2) 10
            minutes(1) 0; of(0, 3) 0; of(0, 2) 7
            minutes(1) 0; of(0, 3) 1; of(0, 2) 7
            """);
        Rows.edge("MOTHERS that are in don't speak in a minute", """
            mother(0) 0; set(0, 3, 9) 0; of(0, 5) 1
            minutes(1) 0; of(0, 2) 10; of(0, 3) 9
            """);
    }

    private static void weight() {
        Rows.edge("WEIGHT: HEAVY, and 2 for each child ON it", """
            now(6) 10
            6 x child(60) ?
            now(6) 10
            ride(0, 1) 1; now(6) 12
            ride(1, 1) 2; ride(2, 1) 3; ride(3, 1) 4; ride(4, 1) 5; now(6) 20
            ride(5, 1) 6; now(6) 22
            iron(0, 50) 10; now(6) 62; iron(0, 1) 50; now(6) 13
            ride(3, 0) 5; now(6) 11
            """);
        // 8 by 2 and 2 is 2 in the minute in which it is flung, and by 2 alone it is 4 after it.
        Rows.edge("WEIGHT: with those who are flung in that minute", """
            mother(3) 0; set(0, 2, 4) 10; out(0, 1) 0; iron(0, 2) 10; iron(1, 30) 0
            child(0) 0; ride(0, 1) 1; now(6) 4
            minutes(1) 29; childOf(0, 2) 1; now(6) 2
            minutes(1) 31
            """);
    }

    private static void push() {
        Rows.edge("PUSH: nobody there", "now(7) 0");
        Rows.edge("PUSH: what all MOTHERS that are OUT KEEP, together", """
            8 x mother(3) ?
            now(7) 0
            out(7, 1) 0; now(7) 20
            7 x minutes(1) ?
            out(0, 1) 0; out(1, 1) 0; out(2, 1) 0; out(3, 1) 0; out(4, 1) 0; out(5, 1) 0; out(6, 1) 0; now(7) 160
            out(3, 0) 1; now(7) 140
            """);
        Rows.edge("PUSH: 0 in RAIN", """
            mother(3) 0; out(0, 1) 0; now(7) 20
            rain(30) 0; now(7) 20; rain(1) 30; now(7) 0; rain(31) 1; now(7) 0
            """);
        // 8 times 49, 999 and 10 by 1 is far above 200.
        Rows.edge("PUSH: the most there can be", """
            8 x mother(4) ?
            set(0, 2, 99) 10; set(1, 2, 99) 10; set(2, 2, 99) 10; set(3, 2, 99) 10
            set(4, 2, 99) 10; set(5, 2, 99) 10; set(6, 2, 99) 10; set(7, 2, 99) 10
            minutes(40) 0
            out(0, 1) 0; out(1, 1) 0; out(2, 1) 0; out(3, 1) 0; out(4, 1) 0; out(5, 1) 0; out(6, 1) 0; out(7, 1) 0
            set(0, 3, 999) 0; set(1, 3, 999) 0; set(2, 3, 999) 0; set(3, 3, 999) 0
            set(4, 3, 999) 0; set(5, 3, 999) 0; set(6, 3, 999) 0; set(7, 3, 999) 0
            now(7) 8464; iron(0, 1) 10; minutes(1) 200
            """);
    }

    private static void speed() {
        Rows.edge("SPEED is PUSH by WEIGHT (cut) more", """
            mother(3) 0; out(0, 1) 0
            set(0, 2, 4) 10; iron(1, 10) 0; minutes(1) 9
            set(0, 2, 5) 4; iron(1, 10) 9; minutes(1) 10
            set(0, 2, 9) 5; iron(1, 10) 10; minutes(1) 10
            set(0, 2, 10) 9; iron(1, 10) 10; minutes(1) 11
            """);
        Rows.edge("SPEED: a tenth (cut) of what it was, less", """
            iron(1, 10) 0; minutes(1) 9; iron(1, 19) 9; minutes(1) 18
            iron(1, 20) 18; minutes(1) 18; iron(1, 29) 18; minutes(1) 27
            iron(1, 30) 27; minutes(1) 27; iron(1, 99) 27; minutes(1) 90
            iron(1, 100) 90; minutes(1) 90; iron(1, 199) 90; minutes(1) 180
            iron(1, 200) 180; minutes(1) 180
            """);
        Rows.edge("SPEED: a tenth of what it was, not of what it becomes", """
            mother(3) 0; set(0, 2, 99) 10; out(0, 1) 0; iron(0, 2) 10
            minutes(1) 98
            """);
        Rows.edge("SPEED: 1 at least, less", """
            iron(1, 9) 0; minutes(1) 8; iron(1, 1) 8; minutes(1) 0
            """);
        Rows.edge("SPEED: 0 held", "minutes(1) 0; iron(1, 1) 0; minutes(2) 0; now(4) 0; now(5) 0");
        Rows.edge("SPEED: 0 held in all: 1 more and 1 less is 0", """
            mother(3) 0; set(0, 2, 5) 10; out(0, 1) 0; minutes(1) 0
            set(0, 2, 9) 5; minutes(1) 0
            set(0, 2, 10) 9; minutes(1) 1
            """);
        Rows.edge("SPEED: 200 may be, and is held", """
            mother(3) 0; out(0, 1) 0; iron(0, 2) 10
            set(0, 2, 19) 10; iron(1, 200) 0; minutes(1) 199
            set(0, 2, 20) 19; iron(1, 200) 199; minutes(1) 200
            set(0, 2, 21) 20; iron(1, 200) 200; minutes(1) 200
            set(0, 2, 99) 21; iron(1, 200) 200; minutes(1) 200
            """);
        // 195 and 30, 19 less, is 206; 200 and 9, 20 less, is 189.
        Rows.edge("SPEED: 200 held in all, not before the tenth is taken", """
            mother(3) 0; out(0, 1) 0; iron(0, 1) 10
            set(0, 2, 15) 10; iron(1, 195) 0; minutes(1) 200
            iron(0, 2) 1; set(0, 2, 9) 15; iron(1, 200) 200; minutes(1) 189
            """);
    }

    private static void grips() {
        Rows.edge("one whose GRIP is below SPEED is FLUNG off", """
            child(17) 0; child(18) 1; child(19) 2; ride(0, 1) 1; ride(1, 1) 2; ride(2, 1) 3
            iron(1, 20) 0; minutes(1) 18; now(9) 6
            childOf(0, 0) 17; childOf(0, 1) 0; childOf(0, 2) 1
            childOf(1, 0) 18; childOf(1, 1) 1; childOf(1, 2) 0
            childOf(2, 0) 19; childOf(2, 1) 1; childOf(2, 2) 0
            """);
        Rows.edge("CHILDREN that are not ON it are not FLUNG, nor is GRIP less", """
            child(0) 0; child(200) 1; iron(1, 200) 0; minutes(1) 180
            childOf(0, 2) 0; childOf(0, 0) 0; childOf(1, 0) 200
            """);
        Rows.edge("GRIP is 1 less, if SPEED is above 30", """
            child(200) 0; ride(0, 1) 1
            iron(1, 33) 0; minutes(1) 30; childOf(0, 0) 200
            iron(1, 34) 30; minutes(1) 31; childOf(0, 0) 199
            iron(1, 200) 31; minutes(1) 180; childOf(0, 0) 198
            """);
        Rows.edge("GRIP: held by just as much as SPEED, once", """
            child(31) 0; ride(0, 1) 1; iron(1, 34) 0
            minutes(1) 31; childOf(0, 0) 30; childOf(0, 1) 1
            iron(1, 34) 31; minutes(1) 31; childOf(0, 0) 30; childOf(0, 1) 0
            """);
        Rows.edge("GRIP of 0 holds while it stands, and stays 0", """
            child(0) 0; ride(0, 1) 1; iron(1, 1) 0
            minutes(1) 0; childOf(0, 0) 0; childOf(0, 1) 1
            minutes(100) 0; childOf(0, 0) 0; childOf(0, 1) 1
            iron(1, 2) 0; minutes(1) 1; childOf(0, 1) 0; childOf(0, 2) 1
            """);
        Rows.edge("GRIP of 200 holds SPEED 200, and not again", """
            mother(3) 0; set(0, 2, 99) 10; out(0, 1) 0; iron(0, 1) 10; iron(1, 200) 0; child(200) 0; ride(0, 1) 1
            minutes(1) 200; childOf(0, 0) 199; childOf(0, 1) 1
            minutes(1) 200; childOf(0, 0) 199; childOf(0, 1) 0
            """);
        Rows.edge("six are FLUNG in one minute", """
            6 x child(0) ?
            ride(0, 1) 1; ride(1, 1) 2; ride(2, 1) 3; ride(3, 1) 4; ride(4, 1) 5; ride(5, 1) 6; now(9) 63
            iron(1, 2) 0; minutes(1) 1; now(9) 0; count(3) 6
            """);
    }

    private static void words() {
        Rows.edge("SPEAKS with SPEED as it is now: 101 after it was 112, alone", """
            mother(5) 0; out(0, 1) 0; iron(1, 112) 0
            minutes(1) 101; of(0, 2) 3; of(0, 3) 0
            """);
        Rows.edge("SPEAKS with SPEED as it is now: 100 after it was 111, alone", """
            mother(5) 0; out(0, 1) 0; iron(1, 111) 0; of(0, 5) 1
            minutes(1) 100; of(0, 2) 10; of(0, 3) 1
            """);
        // 198, and 2 and 3 of the bride, by 10 is 20.
        Rows.edge("SPEAKS with SPEED as it is now: 110 after it was 100", """
            mother(5) 0; mother(3) 1; set(1, 2, 99) 10; out(0, 1) 0; out(1, 1) 0; iron(1, 100) 0; of(0, 5) 0
            minutes(1) 110; of(0, 2) 3; of(0, 3) 0
            """);
        Rows.edge("SPEAKS by NIGHT as it was: in the minute 39 she does", """
            minutes(39) 0; mother(4) 0; out(0, 1) 0; set(0, 3, 15) 0
            minutes(1) 1; of(0, 3) 0; of(0, 2) 8
            """);
        Rows.edge("SPEAKS by NIGHT as it was: in the minutes 40 and 49 she doesn't, in 50 she does", """
            minutes(40) 0; mother(4) 0; out(0, 1) 0; set(0, 3, 15) 0
            minutes(1) ?; of(0, 3) 16; of(0, 2) 10
            minutes(9) ?; now(0) 50; of(0, 3) 25; of(0, 2) 10
            minutes(1) ?; of(0, 3) 0; of(0, 2) 8
            """);
        Rows.edge("SPEAKS by SILENT as it was in (1), not as it becomes", """
            mother(0) 0; mother(1) 1; mother(2) 2; out(0, 1) 0; out(1, 1) 0; out(2, 1) 0
            set(0, 3, 8) 0; set(1, 3, 14) 0; set(2, 3, 2) 0
            minutes(1) ?; of(0, 3) 9; of(1, 3) 15; of(2, 3) 3
            of(0, 2) 10; of(1, 2) 10; of(2, 2) 10
            minutes(1) ?; of(0, 3) 0; of(1, 3) 0; of(2, 3) 0
            of(0, 2) 7; of(1, 2) 8; of(2, 2) 4
            """);
        Rows.edge("what is KEPT in a minute is found out before anyone speaks", """
            mother(0) 0; out(0, 1) 0; set(0, 3, 29) 0; set(0, 2, 5) 10
            minutes(1) 2; of(0, 3) 0; of(0, 2) 2
            """);
        Rows.edge("in RAIN they are silent and speak as ever", """
            rain(31) 0; mother(0) 0; out(0, 1) 0; set(0, 3, 8) 0
            minutes(1) 0; of(0, 3) 9; minutes(1) 0; of(0, 3) 0; of(0, 2) 7
            """);
        Rows.edge("a GOSSIP alone is silent for ever, held to 999", """
            mother(2) 0; out(0, 1) 0; set(0, 3, 950) 0
            minutes(49) 0; of(0, 3) 999; minutes(1) 0; of(0, 3) 999; of(0, 2) 10
            """);
    }

    private static void ahead() {
        String green = """
            mother(0) 0; mother(4) 1; mother(5) 2; mother(3) 3
            out(0, 1) 0; out(1, 1) 0; out(2, 1) 0; out(3, 1) 0
            set(0, 2, 80) 10; set(3, 2, 40) 10; child(90) 0; child(150) 1; ride(0, 1) 1; ride(1, 1) 2; rain(8) 0
            """;
        Rows.edge("AHEAD: 0 MINUTES are as all is", green + """
            on(0, 0) 0; on(0, 1) 0; on(0, 2) 3; then(0, 0, 0) 80; then(0, 0, 1) 0; deepest(0) 3
            """);
        for (int n : new int[] {1, 2, 49, 50, 51, 99, 100}) {
            aheadIsWhatComes(green, n, "minutes(" + n + ") ?\n");
        }
        aheadIsWhatComes(green, 199, "minutes(100) ?; minutes(99) ?\n");
        aheadIsWhatComes(green, 200, "minutes(100) ?; minutes(100) ?\n");
    }

    /** What is told ahead must be what is there when those minutes have gone. */
    private static void aheadIsWhatComes(String green, int n, String going) {
        Rows.Round before = new Rows.Round();
        Rows.Round after = new Rows.Round();
        Rows.rowsOf(green).forEach(before::call);
        Rows.rowsOf(green + going).forEach(after::call);
        String sentence = "AHEAD: " + n + " MINUTES go on";
        due(sentence, "SPEED", before.call("on", n, 0), after.call("now", 4));
        due(sentence, "TURNED", before.call("on", n, 1), after.call("now", 5));
        due(sentence, "who is ON", before.call("on", n, 2), after.call("now", 9));
        due(sentence, "deepest", before.call("deepest", n), after.call("deepest", 0));
        for (int m = 0; m < 4; m++) {
            due(sentence, "SECRET of " + m, before.call("then", m, n, 0), after.call("of", m, 2));
            due(sentence, "SILENT of " + m, before.call("then", m, n, 1), after.call("of", m, 3));
        }
    }

    private static void due(String sentence, String what, long got, long want) {
        if (got != want) {
            Rows.fail(sentence, what + " is told as " + got + ", but comes as " + want);
        }
    }

    private static void sheets() {
        for (int s = 0; s < 4; s++) {
            Rows.edge("SHEETS are MISSING at first: " + s,
                "write(%d, 0, 1) MISSING; lays(%d) MISSING; book(%d) MISSING; read(%d, 0) MISSING".formatted(s, s, s, s));
        }
        Rows.edge("SHEETS 0 to 3", """
            sheet(-1, 8, 1) BEYOND; sheet(0, 8, 1) 1; sheet(3, 8, 1) 1; sheet(4, 8, 1) BEYOND
            write(0, 0, 1) 0; write(3, 0, 1) 0; write(1, 0, 1) MISSING; write(2, 0, 1) MISSING
            """);
        Rows.edge("SHEETS: at most 40 numbers", """
            sheet(0, 64, 40) 40; write(0, 39, 1) 0; write(0, 40, 1) BEYOND
            sheet(1, 8, 41) BEYOND; write(1, 0, 1) MISSING
            """);
        Rows.edge("SHEETS: the last of one and the first of the next are two", """
            sheet(0, 64, 40) 40; sheet(1, 64, 40) 40; sheet(2, 64, 40) 40; sheet(3, 64, 40) 40
            write(0, 39, 7) 0; write(1, 0, 8) 0; write(1, 39, 9) 0; write(2, 0, 10) 0; write(2, 39, 11) 0; write(3, 0, 12) 0
            write(0, 39, 0) 7; write(1, 0, 0) 8; write(1, 39, 0) 9; write(2, 0, 0) 10; write(2, 39, 0) 11; write(3, 0, 0) 12
            write(0, 0, 0) 0; write(3, 39, 0) 0
            """);
        Rows.edge("SHEETS of 8, 16 and 64 bits alone", """
            sheet(0, 8, 1) 1; sheet(0, 16, 2) 2; sheet(0, 64, 3) 3
            sheet(0, 1, 1) BEYOND; sheet(0, 7, 1) BEYOND; sheet(0, 9, 1) BEYOND; sheet(0, 15, 1) BEYOND; sheet(0, 17, 1) BEYOND
            sheet(0, 32, 1) BEYOND; sheet(0, 63, 1) BEYOND; sheet(0, 65, 1) BEYOND; sheet(0, 128, 1) BEYOND
            sheet(0, -8, 1) BEYOND; sheet(0, -1, 1) BEYOND; sheet(0, LOW, 1) BEYOND; sheet(0, HIGH, 1) BEYOND
            write(0, 2, HIGHEST) 0; write(0, 2, 0) HIGHEST
            """);
    }
}
