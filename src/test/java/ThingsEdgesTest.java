/** The boundary cases of the terms on things and columns, and of promises 1 to 7, a test for each sentence. */
public final class ThingsEdgesTest {
    private static final Sentences SENTENCES = new Sentences();

    public static void main(String[] args) {
        rows();
        cards();
        fits();
        sameOne();
        load();
        columns();
        newObject();
        make();
        lay();
        placesAndKind();
        tagAndLoad();
        SENTENCES.end("ThingsEdgesTest");
    }

    private static void rows() {
        SENTENCES.test("ROWS, 0 to 24 PLACES long, from 0", Sentences.forKinds(0, 11, """
            make 0 KIND 0 = 1
            places 0 = 0
            what 0 {MIN -1 0 1 24 MAX} ! 4
            make 0 KIND 1 = 1
            places 0 = 1
            what 0 0
            what 0 {MIN -1 1 2 24 MAX} ! 4
            make 0 KIND 24 = 1
            places 0 = 24
            what 0 {0..23}
            what 0 {MIN -1 24 25 MAX} ! 4
            """));
        SENTENCES.test("(these eight are PLAIN ROWS, each of the sort of its number", Sentences.forKinds(0, 7, """
            make 0 KIND 1
            kind 0 = KIND
            what 0 0 = KIND
            put 0 0 KIND 1 = 1
            what 0 0 = KIND
            find 0 0 KIND 1 = 0
            """));
        SENTENCES.test("a place has a value, 0 at first)", Sentences.forKinds(0, 5, """
            make 0 KIND 24
            number 0 {0..23} KIND = 0
            """));
        SENTENCES.test("a place has a value, 0 at first) (FLOATS and DOUBLES)", Sentences.forKinds(6, 7, """
            make 0 KIND 24
            point 0 {0..23} KIND = 0
            """));
        SENTENCES.test("(a place has a thing or NOTHING, NOTHING at first)", Sentences.forKinds(8, 11, """
            make 0 KIND 24
            what 0 {0..23} = -1
            take 0 {0 23} 1 = 0
            kind 1 = -1
            """));
    }

    private static void cards() {
        SENTENCES.test("CARDS have kinds 12 CARD, 13 PASS, 14 BADGE, and a TAG, an int", Sentences.forKinds(12, 14, """
            make 0 KIND MIN = 1
            kind 0 = KIND
            tag 0 = -2147483648
            make 0 KIND MAX = 1
            tag 0 = 2147483647
            make 0 KIND -1 = 1
            tag 0 = -1
            make 0 KIND 25 = 1
            tag 0 = 25
            places 0 ! 3
            """));
    }

    private static String fit(int row, int thing, boolean fits) {
        return """
            make 0 ROW 2
            make 1 THING 3
            putThing 0 1 1 FITS
            what 0 1 = WHAT
            what 0 0 = -1
            """.replace("ROW", "" + row).replace("THING", "" + thing).replace("FITS", fits ? "= 1" : "! 5")
            .replace("WHAT", "" + (fits ? thing : -1));
    }

    private static void fits() {
        SENTENCES.test("What FITS a row of things: NOTHING", Sentences.forKinds(8, 11, """
            make 0 KIND 24
            putThing 0 {0 23} 1 = 0
            what 0 {0 23} = -1
            """));
        SENTENCES.test("NOTHING at a place that had a thing", """
            make 0 14 5
            things 1 8: 0 0
            things 2 9: 0 0
            make 3 4 2
            things 4 10: 3 3
            things 5 11: 1 2
            putThing {1 2 4 5} 1 9 = 0
            row 1 = 8: 14#5 -
            row 2 = 9: 14#5 -
            row 4 = 10: 4x2 -
            row 5 = 11: 8x2 -
            """);
        fits("CARDS: 12, 13, 14.", 8, 12, 13, 14);
        fits("BADGES: 14.", 9, 14);
        fits("SHEETS: a row of INTS.", 10, 4);
        fits("DECKS: a row of CARDS or of BADGES.", 11, 8, 9);
    }

    private static void fits(String sentence, int row, int... fitting) {
        String[] runs = new String[15];
        for (int thing = 0; thing < 15; thing++) {
            boolean fits = false;
            for (int one : fitting) {
                fits |= one == thing;
            }
            runs[thing] = fit(row, thing, fits);
        }
        SENTENCES.test(sentence, runs);
    }

    private static void sameOne() {
        SENTENCES.test("One thing may be in several columns and places: it is the same one.", """
            fill 0 4: 1 2
            lay 0 11
            things 1 10: 0 - 0
            things 2 10: 0
            put 11 0 4 9
            number 0 0 4 = 9
            take 1 2 3 = 1
            number 3 0 4 = 9
            put 3 1 4 8
            take 2 0 4 = 1
            row 4 = 4: 9 8
            row {0 11 3 4} = 4: 9 8
            sort 4 = 2
            row {0 11 3} = 4: 8 9
            make 0 4 5
            places 0 = 5
            places {11 3 4} = 2
            take 1 0 0 = 1
            places 0 = 2
            """, """
            make 0 14 7
            lay 0 1
            make 2 14 7
            things 3 8: 0 1 2
            things 4 9: 0 0 0
            things 5 9: 1 0 2
            alike 3 4 = 0
            alike 3 5 = 1
            """, """
            make 0 8 1
            things 1 11: 0 0
            make 2 13 4
            putThing 0 0 2 = 1
            take 1 1 3 = 1
            what 3 0 = 13
            take 1 0 4 = 1
            putThing 4 0 10 = 0
            what {0 3} 0 = -1
            """);
    }

    private static void load() {
        SENTENCES.test("LOAD (ints that wrap): of a CARD and a PASS the TAG", """
            make 0 12 MAX
            load 0 = 2147483647
            make 0 12 MIN
            load 0 = -2147483648
            make 0 13 MAX
            load 0 = 2147483647
            make 0 13 MIN
            load 0 = -2147483648
            make 0 13 -1
            load 0 = -1
            make 0 12 0
            load 0 = 0
            """);
        SENTENCES.test("of a BADGE twice that, and 1 more", """
            make 0 14 0
            load 0 = 1
            make 0 14 -1
            load 0 = -1
            make 0 14 2^30-1
            load 0 = 2147483647
            make 0 14 2^30
            load 0 = -2147483647
            make 0 14 MAX
            load 0 = -1
            make 0 14 MIN
            load 0 = 1
            make 0 14 -2^30
            load 0 = -2147483647
            make 0 14 -2^30-1
            load 0 = 2147483647
            """);
    }

    private static void columns() {
        SENTENCES.test("The COLUMNS 0 .. 11 hold a thing each, or NOTHING", """
            make 0 12 100
            make 1 12 101
            make 2 12 102
            make 3 12 103
            make 4 12 104
            make 5 12 105
            make 6 12 106
            make 7 12 107
            make 8 12 108
            make 9 12 109
            make 10 12 110
            make 11 12 111
            tag 0 = 100
            tag 1 = 101
            tag 5 = 105
            tag 10 = 110
            tag 11 = 111
            make {-1 12} 12 112 ! 1
            tag 0 = 100
            tag 11 = 111
            """);
        SENTENCES.test("NOTHING at first.", """
            kind {0..11} = -1
            kind {-1 12} ! 1
            """);
    }

    private static void newObject() {
        SENTENCES.test("All columns hold NOTHING", """
            places {0..11} ! 2
            lay {0..11} 0 = 0
            """);
        SENTENCES.test("WHY 0.", "why = 0");
        // Each line is a call and one of why().
        SENTENCES.test("An object is used for at most 512 calls after it has been made",
            "make {0..11} 11 24\n".repeat(20) + "make 11 4 24\n"
            + "put 11 23 4 7\nnumber 11 23 4 = 7\n".repeat(7) + "sum 11 = 7\n");
    }

    private static void make() {
        SENTENCES.test("Column c holds a new thing of kind k", """
            fill 0 4: 5
            lay 0 1
            make 0 4 1 = 1
            number 0 0 4 = 0
            number 1 0 4 = 5
            make 1 {0..14} 3 = 1
            kind 1 = 14
            tag 1 = 3
            make 1 0 24 = 1
            kind 1 = 0
            make 1 11 24 = 1
            kind 1 = 11
            """);
        SENTENCES.test("a row n places long, or one of the three cards with the TAG n.", """
            make 0 0 24 = 1
            places 0 = 24
            make 11 11 0 = 1
            places 11 = 0
            make 0 12 -7 = 1
            tag 0 = -7
            """);
        SENTENCES.test("Reasons: 1 (c;", """
            make 0 4 1
            make 11 4 1
            keep
            make {MIN -1 12 MAX} {0 11 12 14} 2 ! 1
            kept
            """);
        SENTENCES.test("k not 0 .. 14;", """
            make 0 4 1
            keep
            make 0 {MIN -1 15 MAX} 2 ! 1
            kept
            """);
        SENTENCES.test("of rows n not 0 .. 24).", """
            make 0 4 1
            keep
            make 0 {0..11} {-1 25} ! 1
            make 0 {0 11} {MIN MAX} ! 1
            kept
            """);
    }

    private static void lay() {
        SENTENCES.test("Column d holds what column c holds, too. Answers 1 if that is a thing", """
            make 0 12 6
            lay 0 11 = 1
            tag {0 11} = 6
            lay 11 11 = 1
            tag 11 = 6
            """);
        SENTENCES.test("0 if NOTHING. Reason: 1.", """
            make 0 12 6
            lay 1 0 = 0
            kind 0 = -1
            lay 1 1 = 0
            make 0 12 6
            make 11 12 7
            keep
            lay {MIN -1 12 MAX} {0 11} ! 1
            lay {0 11 1} {MIN -1 12 MAX} ! 1
            lay 12 -1 ! 1
            kept
            """);
    }

    private static void placesAndKind() {
        SENTENCES.test("How many places the row in column c has. Reasons: 1; 2; 3.", """
            make 0 7 0
            make 11 8 24
            make 1 12 5
            make 2 14 5
            places 0 = 0
            places 11 = 24
            places {MIN -1 12 MAX} ! 1
            places 3 ! 2
            places {1 2} ! 3
            """);
        SENTENCES.test("The kind of the thing in column c; -1 NOTHING. Reason: 1.", """
            make 0 0 0
            make 11 14 0
            kind 0 = 0
            kind 11 = 14
            kind 1 = -1
            kind {MIN -1 12 MAX} ! 1
            """);
    }

    private static void tagAndLoad() {
        for (String call : new String[] {"tag", "load"}) {
            String word = call.toUpperCase();
            SENTENCES.test("The " + word + " of the card in column c. Reasons: 1; 5: it holds no card.", """
                make 0 12 1
                make 11 13 1
                CALL {0 11} = 1
                CALL {MIN -1 12 MAX} ! 1
                CALL {1..10} ! 5
                things 1 8: 0
                CALL 1 ! 5
                """.replace("CALL", call));
            SENTENCES.test("it holds no card: " + call + " of each row", Sentences.forKinds(0, 11, """
                make 0 KIND 0
                CALL 0 ! 5
                make 0 KIND 1
                CALL 0 ! 5
                """.replace("CALL", call)));
        }
    }
}
