/** Promise 30 and THE TEXT of a GREEN: each edge that they name, and every kind of FAULT; worked out by hand. */
public final class TextTest {
    private static final String[] KINDS = {"mother", "aunt", "gossip", "mrs", "gran", "bride"};
    /** Some of everything, so that a text that doesn't stand has something to spoil. */
    private static final String BUSY = """
        mother(4) 0; out(0, 1) 0; set(0, 2, 30) 10; child(90) 0; ride(0, 1) 1; rain(6) 0; iron(0, 20) 10; minutes(12) ?
        sheet(0, 16, 3) 3; write(0, 1, 500) 0; image() 1; mother(5) 1
        """;

    private TextTest() {
    }

    public static void main(String[] args) {
        lengths();
        tokens();
        words();
        whatWasThereBefore();
        mothers();
        children();
        weather();
        iron();
        full();
        endsTooEarly();
        cannotStandThere();
        Rows.end();
    }

    private static void stands(String sentence, int items, String text, String then) {
        Rows.edge(sentence, "text " + items + " " + text + "\n" + then);
    }

    /** A FAULT at its place; nothing changes but that the tape is empty, and it is no finding. */
    private static void fault(String sentence, int place, String text) {
        String told = sentence + ", '" + text + "'";
        Rows.edge(told, "text " + (-1 - place) + " " + text + "\nstatus(-1) 0");
        Rows.edge(told + " (busy)", BUSY + "text " + (-1 - place) + " " + text + "\nstatus(-1) 0; count(0) 2; count(1) 1");
        Rows.same(told + ": nothing changes", BUSY + "type " + text + "\ngreen() ?", BUSY + "type " + text + "\nwipe() ?");
    }

    private static String blanks(int n) {
        return "~".repeat(n);
    }

    private static void lengths() {
        Rows.edge("THE TAPE is empty: FAULT 0", "green() -1; status(-1) 0; count(2) 0");
        Rows.edge("blanks alone: it ends too early", "text -4 " + blanks(3));
        Rows.edge("blanks alone, 120: it ends too early", "text -121 " + blanks(120));
        Rows.edge("120 bytes, one item", "text 1 mother" + blanks(114) + "\ncount(0) 1");
        Rows.edge("120 bytes, the last of them a token", "text 2 dry 4" + blanks(108) + ";heavy7\nnow(6) 7");
        Rows.edge("120 bytes, ending too early", "text -121 mother" + blanks(113) + ";\ncount(0) 0");
        Rows.edge("120 bytes, the FAULT in the last", "text -120 mother" + blanks(113) + "?\ncount(0) 0");
        Rows.edge("the most items there can be", "text 25 " + "mrs;".repeat(8) + "dry0;".repeat(16) + "dry4\ncount(0) 8");
        Rows.edge("24 items of 5 bytes", "text 24 " + "dry0;".repeat(23) + "dry4");
        Rows.edge("one item", "text 1 mrs\ncount(0) 1");
        Rows.edge("THE TAPE is empty then, and can be filled again", "text 1 mrs\ntext 1 gran\ncount(0) 2; wipe() 0");
        Rows.edge("THE TAPE is empty after a FAULT, and can be filled again", "text -1 x\ntext 1 gran\ncount(0) 1; wipe() 0");
    }

    private static void tokens() {
        stands("blanks may stand between", 2, "  mother  secret  5  out  ;  heavy  7" + blanks(2), "of(0, 1) 1; of(0, 2) 5; now(6) 7");
        stands("blanks need not stand between", 2, "mother secret5out;heavy7", "of(0, 1) 1; of(0, 2) 5; now(6) 7");
        stands("a NUMBER ends where a WORD begins", 1, "child20on", "childOf(0, 0) 20; now(9) 1");
        fault("WORDS are as long as can be", 0, "mothersecret 5");
        fault("WORDS are as long as can be", 0, "mothers");
        fault("WORDS are as long as can be", 7, "mother outs");
        fault("WORDS are as long as can be", 0, "moth er");
        fault("NUMBERS are as long as can be", 6, "heavy 51");
        fault("NUMBERS are as long as can be: two of them", 8, "heavy 5 1");
        fault("letters a to z: not A", 0, "Mother");
        fault("letters a to z: not Z", 6, "motherZ");
        stands("letters a to z: a and z", 1, "aunt", "of(0, 0) 1");
        fault("letters a to z: the byte before a", 4, "aunt`");
        fault("letters a to z: the byte behind z", 4, "aunt{");
        fault("letters a to z: z is one", 0, "auntz");
        fault("letters a to z: a is one", 0, "aunta");
        fault("digits: the byte before 0", 5, "heavy/5");
        fault("digits: the byte behind 9", 7, "heavy 5:");
        fault("digits: 9 is one", 6, "heavy 59");
        fault("digits: 0 is one", 6, "heavy 500");
        fault("SIGN ; : the byte before it is another", 4, "aunt:gran");
        fault("SIGN ; : the byte behind it is another", 4, "aunt<gran");
        fault("a NUMBER is 999 at most", 6, "child 1000");
        fault("a NUMBER is 999 at most", 12, "aunt secret 1000");
        fault("a NUMBER of many digits", 6, "child 4294967297");
        fault("a NUMBER of more digits", 6, "child 18446744073709551617");
        fault("a NUMBER of most digits", 5, "heavy" + "9".repeat(100));
        stands("a NUMBER with noughts before it", 1, "child 0000000000000000000007", "childOf(0, 0) 7");
        for (int b : new int[] {0, 9, 10, 13, 31, 33, 44, 45, 64, 95, 127, 128, 160, 255}) {
            Rows.edge("a byte that begins no TOKEN, first: " + b, "feed(" + b + ", 1) 1\ntext -1 mrs\ncount(0) 0");
            Rows.edge("a byte that begins no TOKEN, behind an item: " + b, "type mrs\nfeed(" + b + ", 1) 4; green() -4; count(0) 0");
            Rows.edge("a byte that begins no TOKEN, behind ; : " + b, "type mrs;\nfeed(" + b + ", 1) 5; green() -5; count(0) 0");
            Rows.edge("a byte that begins no TOKEN, for a NUMBER: " + b, "type heavy\nfeed(" + b + ", 1) 6\ntext -6 5\nnow(6) 10");
        }
    }

    /** A WORD is the one that it should be from its first letter to its last, and no more of it. */
    private static void words() {
        String[] behind = {"", "", "", "", "", "", " 5", " 1", " 1", " 5"};
        String[] first = {"mother", "aunt", "gossip", "mrs", "gran", "bride", "child", "rain", "dry", "heavy"};
        for (int i = 0; i < first.length; i++) {
            for (String other : likeIt(first[i])) {
                fault("another WORD that is nearly " + first[i], 0, other + behind[i]);
            }
        }
        for (String other : likeIt("secret")) {
            fault("another WORD that is nearly secret", 4, "mrs " + other + " 5");
        }
        for (String other : likeIt("out")) {
            fault("another WORD that is nearly out", 4, "mrs " + other);
        }
        for (String other : likeIt("on")) {
            fault("another WORD that is nearly on", 8, "child 5 " + other);
        }
    }

    private static String[] likeIt(String word) {
        int last = word.length() - 1;
        return new String[] {"x" + word.substring(1), word.substring(0, last) + "x", word.substring(0, last), word.substring(1),
            word + word.charAt(last), "x" + word};
    }

    private static void whatWasThereBefore() {
        Rows.edge("what was on THE TAPE before a wipe is not read", """
            type mrs secret 5 out
            wipe() 16
            text -11 mrs secret
            text 1 mrs
            count(0) 1; of(0, 1) 0; of(0, 2) 10
            """);
        Rows.edge("blanks that were on THE TAPE before a wipe are not read", "type mrs;" + blanks(20) + "\nwipe() 24\ntext -5 mrs;\ntext 1 mrs");
        Rows.edge("digits that were on THE TAPE before green() are not read", "text 1 heavy 49\ntext 1 heavy 4\nnow(6) 4");
        Rows.edge("what was on THE TAPE before a FAULT is not read", "text -1 x mrs;mrs\ntext 1 mrs\ncount(0) 1");
    }

    private static void mothers() {
        for (int kind = 0; kind < KINDS.length; kind++) {
            String name = KINDS[kind];
            stands("the name of a KIND: one more, in, SECRET 10", 1, name,
                "count(0) 1; of(0, 0) " + kind + "; of(0, 1) 0; of(0, 2) 10; of(0, 3) 0");
            stands("a KIND, OUT", 1, name + " out", "of(0, 0) " + kind + "; of(0, 1) 1; of(0, 2) 10; of(0, 3) 0");
            stands("a KIND, SECRET 0", 1, name + " secret 0", "of(0, 0) " + kind + "; of(0, 1) 0; of(0, 2) 0; of(0, 3) 0");
            stands("a KIND, SECRET 99, OUT", 1, name + " secret 99 out", "of(0, 0) " + kind + "; of(0, 1) 1; of(0, 2) 99; of(0, 3) 0");
            fault("a KIND, SECRET 100", name.length() + 8, name + " secret 100");
            fault("a KIND, SECRET 100, OUT", name.length() + 8, name + " secret 100 out");
        }
        fault("SECRET 999 is a NUMBER, but may not be", 11, "mrs secret 999");
        fault("SECRET below 0", 11, "mrs secret -1");
        fault("secret without a NUMBER", 11, "mrs secret out");
        fault("secret without a NUMBER", 11, "mrs secret ; mrs");
        fault("secret twice", 13, "mrs secret 5 secret 5");
        fault("a NUMBER without secret", 4, "mrs 5");
        fault("out before secret", 8, "mrs out secret 5");
        fault("out twice", 8, "mrs out out");
        fault("on is for children", 4, "mrs on");
        Rows.edge("a text's MOTHERS come to what there is", "mother(2) 0; out(0, 1) 0\ntext 2 gran out;bride\ncount(0) 3; of(0, 0) 2; of(1, 0) 4; of(2, 0) 5; now(8) 3");
        Rows.edge("one that comes where an undone one was is new", """
            image() 1; mother(3) 0; out(0, 1) 0; set(0, 3, 7) 0; undo() 0
            text 1 mrs
            of(0, 1) 0; of(0, 3) 0
            """);
    }

    private static void children() {
        stands("child, GRIP 0", 1, "child 0", "count(1) 1; childOf(0, 0) 0; childOf(0, 1) 0; childOf(0, 2) 0");
        stands("child, GRIP 200, ON", 1, "child 200 on", "count(1) 1; childOf(0, 0) 200; childOf(0, 1) 1; childOf(0, 2) 0");
        fault("child, GRIP 201", 6, "child 201");
        fault("child, GRIP 201, ON", 6, "child 201 on");
        fault("child, GRIP 999", 6, "child 999");
        fault("child without a NUMBER", 6, "child on");
        fault("child without a NUMBER", 6, "child ;");
        fault("child, two NUMBERS", 8, "child 5 5");
        fault("on twice", 11, "child 5 on on");
        fault("out is for mothers", 8, "child 5 out");
        fault("secret is for mothers", 8, "child 5 secret 5");
        Rows.edge("a text's CHILDREN come to what there is", "child(9) 0; ride(0, 1) 1\ntext 2 child 7;child 8 on\ncount(1) 3; childOf(0, 0) 9; childOf(1, 0) 7; childOf(2, 0) 8; now(9) 5");
        Rows.edge("one that comes where an undone one was is new", """
            image() 1; child(0) 0; ride(0, 1) 1; iron(1, 9) 0; minutes(1) 8; ride(0, 1) 1; undo() 0
            text 1 child 9
            childOf(0, 1) 0; childOf(0, 2) 0
            """);
    }

    private static void weather() {
        for (int part = 0; part <= 4; part++) {
            stands("rain, a NUMBER 0 to 4", 1, "rain " + part, "rain(0) " + (1 << part));
            Rows.edge("rain in what is wet already: " + part, "rain(31) 0\ntext 1 rain " + part + "\nrain(0) 31");
            Rows.edge("dry, a NUMBER 0 to 4: " + part, "rain(31) 0\ntext 1 dry " + part + "\nrain(0) " + (31 - (1 << part)));
            stands("dry in what is dry already", 1, "dry " + part, "rain(0) 0");
        }
        fault("rain 5", 5, "rain 5");
        fault("dry 5", 4, "dry 5");
        fault("rain 32", 5, "rain 32");
        fault("rain 999", 5, "rain 999");
        fault("rain without a NUMBER", 5, "rain rain");
        fault("dry without a NUMBER", 4, "dry dry");
        fault("rain, two NUMBERS", 7, "rain 1 2");
        fault("dry, two NUMBERS", 6, "dry 1 2");
        fault("dry on", 6, "dry 1 on");
        stands("ITEMS in their order: rain, dry", 2, "rain 3;dry 3", "rain(0) 0");
        stands("ITEMS in their order: dry, rain", 2, "dry 3;rain 3", "rain(0) 8");
        stands("rain in all parts", 5, "rain 0;rain 1;rain 2;rain 3;rain 4", "now(3) 1; rain(0) 31");
    }

    private static void iron() {
        stands("heavy, a NUMBER 1 to 50: 1", 1, "heavy 1", "now(6) 1; iron(0, 9) 1");
        stands("heavy, a NUMBER 1 to 50: 50", 1, "heavy 50", "now(6) 50; iron(0, 9) 50");
        fault("heavy 0", 6, "heavy 0");
        fault("heavy 51", 6, "heavy 51");
        fault("heavy 999", 6, "heavy 999");
        fault("heavy without a NUMBER", 6, "heavy heavy");
        fault("heavy, then another WORD", 8, "heavy 5 on");
        stands("ITEMS in their order: heavy", 2, "heavy 50;heavy 49", "now(6) 49");
        stands("SPEED and MINUTE are told by no ITEM", 3, "heavy 2;rain 0;child 9 on", "now(0) 0; now(4) 0; now(5) 0; now(6) 4");
    }

    private static void full() {
        stands("the name of a KIND for an 8th", 8, "mrs;mrs;mrs;mrs;mrs;mrs;mrs;mrs out", "count(0) 8; now(8) 128");
        Rows.edge("the name of a KIND for a 9th: its own place", "text -33 mrs;mrs;mrs;mrs;mrs;mrs;mrs;mrs;mrs\ncount(0) 0");
        Rows.edge("the name of a KIND for a 9th before another FAULT", "text -33 mrs;mrs;mrs;mrs;mrs;mrs;mrs;mrs;mrs secret 100;x\ncount(0) 0");
        Rows.edge("another FAULT before the name of a KIND for a 9th", "text -17 mrs;mrs;mrs;mrs;?rs;mrs;mrs;mrs;mrs\ncount(0) 0");
        Rows.edge("the name of a KIND for a 9th, 8 being there", """
            8 x mother(0) ?
            text -1 mother
            text -1 aunt
            text -1 gossip
            text -1 mrs
            text -1 gran
            text -3   bride secret 100
            text -9 heavy 7;mrs out
            text 2 heavy 7;child 5
            count(0) 8; count(1) 1; now(6) 7
            """);
        Rows.edge("the name of a KIND for an 8th, 7 being there", """
            7 x mother(0) ?
            text -5 mrs;mrs
            count(0) 7
            text 1 mrs
            count(0) 8; of(7, 0) 3
            """);
        stands("child for a 6th", 6, "child 1;child 2;child 3;child 4;child 5;child 6 on", "count(1) 6; childOf(5, 0) 6; now(9) 32");
        Rows.edge("child for a 7th: its own place", "text -49 child 1;child 2;child 3;child 4;child 5;child 6;child 7\ncount(1) 0");
        Rows.edge("child for a 7th before another FAULT", "text -49 child 1;child 2;child 3;child 4;child 5;child 6;child 201;x\ncount(1) 0");
        Rows.edge("child for a 7th, 6 being there", """
            6 x child(0) ?
            text -1 child 5
            text -1 child
            text -1 child 201
            text -8 rain 1;child 5 on
            text 2 rain 1;mrs
            count(1) 6; count(0) 1; rain(0) 2
            """);
        Rows.edge("child for a 6th, 5 being there", """
            5 x child(0) ?
            text -9 child 1;child 2
            count(1) 5
            text 1 child 1
            count(1) 6
            """);
        Rows.edge("8 MOTHERS and 6 CHILDREN in one text",
            "text 14 mrs;mrs;mrs;mrs;mrs;mrs;mrs;mrs;child 1;child 2;child 3;child 4;child 5;child 6\ncount(0) 8; count(1) 6");
    }

    private static void endsTooEarly() {
        fault("it ends too early: behind ;", 4, "mrs;");
        fault("it ends too early: behind ; and blanks", 7, "mrs;" + blanks(3));
        fault("it ends too early: behind secret", 10, "mrs secret");
        fault("it ends too early: behind secret and a blank", 11, "mrs secret" + blanks(1));
        fault("it ends too early: behind child", 5, "child");
        fault("it ends too early: behind child and blanks", 7, "child" + blanks(2));
        fault("it ends too early: behind rain", 4, "rain");
        fault("it ends too early: behind dry", 3, "dry");
        fault("it ends too early: behind heavy", 5, "heavy");
        fault("it ends too early: behind other items", 24, "mrs out;child 5 on;heavy");
        stands("it may end behind an item and blanks", 1, "mrs" + blanks(5), "count(0) 1");
    }

    private static void cannotStandThere() {
        fault("a SIGN first", 0, ";");
        fault("a SIGN first", 2, "  ;mrs");
        fault("a SIGN behind a SIGN", 4, "mrs;;mrs");
        fault("a SIGN behind a SIGN and blanks", 6, "mrs;  ;");
        fault("a SIGN for a NUMBER", 4, "rain;");
        fault("a NUMBER first", 0, "5");
        fault("a NUMBER for a WORD", 4, "mrs;5");
        fault("another WORD first", 0, "secret 5");
        fault("another WORD first", 0, "out");
        fault("another WORD first", 0, "on");
        fault("another WORD first", 0, "wet 3");
        fault("another WORD behind ;", 5, "gran;nobody");
        fault("another WORD behind an item", 5, "gran mrs");
        fault("another WORD behind an item", 7, "rain 1 rain 2");
        fault("another WORD for a NUMBER", 6, "heavy mrs");
        fault("a WORD that is part of a name", 0, "m");
        fault("a WORD that is part of a name", 0, "mrss");
        fault("a WORD that is part of a name", 0, "hild 5");
        fault("the first of two FAULTS", 5, "rain 9;heavy 99");
        fault("the first of two FAULTS", 7, "rain 4;x;y");
        fault("items before the FAULT don't come", 37, "aunt;gran;rain 1;child 5 on;heavy 9; nobody");
    }
}
