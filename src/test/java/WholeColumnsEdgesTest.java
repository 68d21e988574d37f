/** The boundary cases of promises 15 to 20 (copy, gather, scatter, merge, sort, turn), a test for each sentence. */
public final class WholeColumnsEdgesTest {
    private static final Sentences SENTENCES = new Sentences();
    private static final String UP = "1 2 3 4 5 6 7 8 9 10 11 12 13 14 15 16 17 18 19 20 21 22 23 24";
    private static final String DOWN = "24 23 22 21 20 19 18 17 16 15 14 13 12 11 10 9 8 7 6 5 4 3 2 1";
    private static final String LAST_FIRST = "23 22 21 20 19 18 17 16 15 14 13 12 11 10 9 8 7 6 5 4 3 2 1 0";

    public static void main(String[] args) {
        sameRows();
        copy();
        copyRefused();
        fits();
        gather();
        gatherRefused();
        scatter();
        scatterRefused();
        indexRefused("gather");
        indexRefused("scatter");
        merge();
        mergeRefused();
        sortValues();
        sortThings();
        turn();
        SENTENCES.end("WholeColumnsEdgesTest");
    }

    private static void test(String call, String sentence, String... runs) {
        for (int k = 0; k < runs.length; k++) {
            runs[k] = runs[k].replace("CALL", call).replace("UP", UP).replace("DOWN", DOWN)
                .replace("LAST_FIRST", LAST_FIRST);
        }
        SENTENCES.test(call + "(): " + sentence, runs);
    }

    private static void sameRows() {
        String sentence = "of rows that two columns hold, and that are the same one, what is read is what was there "
            + "before the call.";
        test("copy", sentence, """
            fill 0 4: 3 1 2
            lay 0 1
            copy 0 1 = 3
            row 0 = 4: 3 1 2
            copy 0 0 = 3
            row 1 = 4: 3 1 2
            """);
        test("gather", sentence, """
            fill 0 4: 7 8 9
            lay 0 1
            fill 2 1: 2 0 1
            gather 0 2 1 = 3
            row 0 = 4: 9 7 8
            gather 0 2 0 = 3
            row 0 = 4: 8 9 7
            """, """
            fill 0 4: 7 8 9
            fill 1 4: 1 2 0
            lay 1 3
            gather 0 1 3 = 3
            row 1 = 4: 8 9 7
            """, """
            fill 0 4: 1 2 0
            lay 0 1
            lay 0 2
            gather 0 1 2 = 3
            row 0 = 4: 2 0 1
            """, """
            fill 0 4: LAST_FIRST
            gather 0 0 0 = 24
            row 0 = 4: 0 1 2 3 4 5 6 7 8 9 10 11 12 13 14 15 16 17 18 19 20 21 22 23
            """, """
            fill 0 4: 1 0
            lay 0 1
            fill 2 4: 5 6
            gather 0 1 2 = 2
            row 2 = 4: 0 1
            row 0 = 4: 1 0
            """);
        test("scatter", sentence, """
            fill 0 4: 7 8 9
            lay 0 1
            fill 2 1: 1 2 0
            scatter 0 2 1 = 3
            row 0 = 4: 9 7 8
            scatter 0 2 0 = 3
            row 0 = 4: 8 9 7
            """, """
            fill 0 4: 7 8 9
            fill 1 4: 1 2 0
            lay 1 2
            scatter 0 1 2 = 3
            row 1 = 4: 9 7 8
            """, """
            fill 0 4: 1 2 0
            lay 0 1
            lay 0 2
            scatter 0 1 2 = 3
            row 0 = 4: 0 1 2
            """, """
            fill 0 4: 1 2 2
            scatter 0 0 0 = 3
            row 0 = 4: 1 1 2
            """, """
            fill 0 4: 0 0
            lay 0 1
            make 2 4 1
            scatter 0 1 2 = 2
            row 2 = 4: 0
            """);
        test("merge", sentence, """
            fill 0 4: 3 1 2
            lay 0 1
            make 2 4 0
            merge 0 2 1 = 3
            row 0 = 4: 3 1 2
            merge 2 0 1 = 3
            row 0 = 4: 3 1 2
            make 3 4 6
            merge 0 1 3 = 6
            row 3 = 4: 3 1 2 3 1 2
            row 0 = 4: 3 1 2
            merge 2 2 2 = 0
            merge 0 0 0 ! 4
            """);
        test("sort", "a row that is in several columns and places", """
            fill 0 4: 3 1 2
            lay 0 1
            things 2 10: 0 1
            sort 1 = 3
            row 0 = 4: 1 2 3
            take 2 1 3
            row 3 = 4: 1 2 3
            """);
        test("turn", "a row that is in several columns and places", """
            fill 0 4: 3 1 2
            lay 0 1
            things 2 10: 0 1
            turn 1 1 = 3
            row 0 = 4: 2 3 1
            take 2 1 3
            row 3 = 4: 2 3 1
            """);
    }

    private static void copy() {
        test("copy", "Each place of the row in column d gets what the same place of that in column c has. "
            + "Answers how many places.", """
            fill 0 4: UP
            fill 11 4: DOWN
            copy 0 11 = 24
            row 11 = 4: UP
            row 0 = 4: UP
            """, """
            fill 0 5: -5
            fill 1 5: 2^63-1
            copy 0 1 = 1
            row 1 = 5: -5
            put 0 0 5 6
            row 1 = 5: -5
            """);
        test("copy", "an empty row", Sentences.forKinds(0, 11, """
            make 0 KIND 0
            make 1 KIND 0
            copy 0 1 = 0
            make 1 4 0
            copy 0 1 = 0
            copy 1 0 = 0
            make 1 8 0
            copy 0 1 = 0
            copy 1 0 = 0
            """));
        test("copy", "things are the same ones, and NOTHING goes over a thing", """
            make 0 14 5
            make 1 14 5
            things 2 8: 0 - 1
            things 3 9: 1 1 -
            copy 2 3 = 3
            row 3 = 9: 14#5 - 14#5
            alike 2 3 = 1
            things 4 9: 1 - 1
            alike 3 4 = 0
            """, """
            fill 0 4: 5
            things 1 10: 0
            make 2 10 1
            copy 1 2 = 1
            take 2 0 3
            put 3 0 4 6
            row 0 = 4: 6
            """);
    }

    private static void copyRefused() {
        test("copy", "Reasons: 1;", """
            fill 0 4: 5
            make 11 4 1
            keep
            copy {MIN -1 12 MAX} {0 11} ! 1
            copy {0 11} {MIN -1 12 MAX} ! 1
            copy -1 12 ! 1
            kept
            """);
        test("copy", "2 (of one of them);", """
            fill 0 4: 5
            copy 0 1 ! 2
            copy 1 0 ! 2
            copy 1 1 ! 2
            row 0 = 4: 5
            """);
        test("copy", "3 (of one of them);", """
            fill 0 4: 5
            make 1 12 5
            make 2 14 5
            copy 0 {1 2} ! 3
            copy {1 2} 0 ! 3
            copy {1 2} {1 2} ! 3
            row 0 = 4: 5
            tag 1 = 5
            """);
        test("copy", "4: they are not as long as each other;", """
            fill 0 4: 5 6
            fill 1 4: 7
            make 2 4 0
            make 3 4 24
            make 4 4 23
            keep
            copy 0 {1 2 3} ! 4
            copy {1 2 3} 0 ! 4
            copy 3 4 ! 4
            copy 4 3 ! 4
            kept
            """);
        test("copy", "place by place 5: it doesn't go into d's sort", """
            fill 0 5: 5 6
            fill 1 4: 7 8
            fill 2 7: 5 6
            fill 3 6: 7 8
            copy 0 1 ! 5
            copy 2 3 ! 5
            row 1 = 4: 7 8
            row 3 = 6: 0.875 1.0
            """);
        test("copy", "or doesn't fit there", """
            make 0 12 5
            make 1 14 6
            things 2 8: 1 1 0
            things 3 9: - 1 -
            copy 2 3 ! 5
            row 3 = 9: - 14#6 -
            things 2 8: 0 1 1
            copy 2 3 ! 5
            row 3 = 9: - 14#6 -
            make 4 4 1
            things 5 10: - 4
            things 6 11: 2 -
            copy 5 6 ! 5
            copy 6 5 ! 5
            row 5 = 10: - 4x1
            row 6 = 11: 8x3 -
            """);
        test("copy", "a value doesn't go into a row of things, a thing or NOTHING not into a PLAIN ROW.",
            Sentences.forKinds(0, 7, """
            make 0 14 5
            fill 1 KIND: 1
            things 2 8: 0
            make 3 9 1
            make 4 10 1
            make 5 11 1
            keep
            copy 1 {2..5} ! 5
            copy {2..5} 1 ! 5
            kept
            """));
        test("copy", "Of several reasons that counts which is told first at the call", """
            make 1 12 5
            fill 2 4: 5 6
            fill 3 1: 7
            copy {-1 12} {0..3} ! 1
            copy {0..3} {-1 12} ! 1
            copy {0 1 2} 0 ! 2
            copy 0 {0 1 2} ! 2
            copy 1 {2 3} ! 3
            copy {2 3} 1 ! 3
            copy 2 3 ! 4
            row 3 = 1: 7
            """);
    }

    /** A row of things that has a thing of a kind, and which other rows of things that thing fits. */
    private static void fits() {
        String sentence = "or doesn't fit there (what FITS a row of things)";
        int[][] has = {{8, 12, 8}, {8, 13, 8}, {8, 14, 8, 9}, {9, 14, 8, 9}, {10, 4, 10}, {11, 8, 11}, {11, 9, 11}};
        String[] runs = new String[has.length * 4];
        for (int k = 0; k < runs.length; k++) {
            int[] row = has[k / 4];
            int to = 8 + k % 4;
            boolean fits = row[2] == to || row.length > 3 && row[3] == to;
            runs[k] = """
                make 0 THING 5
                things 1 FROM: - 0
                make 2 TO 2
                fill 3 1: 0 1
                copy 1 2 DUE
                what 2 1 = WHAT
                make 2 TO 2
                gather 1 3 2 DUE
                what 2 1 = WHAT
                make 2 TO 2
                scatter 1 3 2 DUE
                what 2 1 = WHAT
                """.replace("THING", "" + row[1]).replace("FROM", "" + row[0]).replace("TO", "" + to)
                .replace("DUE", fits ? "= 2" : "! 5").replace("WHAT", "" + (fits ? row[1] : -1));
        }
        test("copy, gather, scatter", sentence, runs);
    }

    private static void gather() {
        test("gather", "Place k of the row in column d gets what that in column c has at the place that column x has "
            + "at k, as an INT; k from 0 on. Answers how many places.", """
            fill 0 4: UP
            fill 1 4: LAST_FIRST
            make 2 4 24
            gather 0 1 2 = 24
            row 2 = 4: DOWN
            row 0 = 4: UP
            """, """
            fill 0 4: 5
            fill 1 1: 0 0 0
            make 2 5 3
            gather 0 1 2 = 3
            row 2 = 5: 5 5 5
            fill 1 2: 0
            make 2 5 1
            gather 0 1 2 = 1
            row 2 = 5: 5
            """);
        test("gather", "an empty row", """
            fill 0 4: 5
            make 1 1 0
            make 2 4 0
            make 3 8 0
            make 4 0 0
            gather 0 1 {2 3 4} = 0
            gather 2 1 {2 3 4} = 0
            gather 3 1 {2 3 4} = 0
            """);
        test("gather", "things are the same ones, and NOTHING goes over a thing", """
            make 0 14 5
            make 1 12 5
            things 2 8: 0 - 1
            fill 3 4: 1 0
            things 4 9: 0 0
            gather 2 3 4 = 2
            row 4 = 9: - 14#5
            things 5 9: - 0
            alike 4 5 = 1
            """);
    }

    private static void gatherRefused() {
        test("gather", "4: x and d are not as long as each other;", """
            fill 0 4: 5 6 7
            fill 1 4: 0 1
            fill 2 4: 8
            fill 3 4: 8 8 8
            make 4 4 0
            keep
            gather 0 1 {2 3 4} ! 4
            gather 0 4 {1 2 3} ! 4
            kept
            gather 0 2 1 ! 4
            kept
            """);
        test("gather", "place by place (k) 4: c has no such place;", """
            fill 0 4: 5 6
            make 1 4 0
            fill 2 4: 8 9
            fill 3 4: 0 -1
            fill 4 4: 0 2
            fill 5 4: -2^31 0
            fill 6 4: 2^31-1 1
            fill 7 1: 0 -128
            fill 8 2: 0 65535
            fill 9 3: 0 -1
            gather 0 {3..9} 2 ! 4
            gather 1 {2..9} 2 ! 4
            row 2 = 4: 8 9
            """, """
            make 0 4 24
            put 0 23 4 7
            fill 1 1: 23
            fill 2 1: 24
            make 3 4 1
            gather 0 1 3 = 1
            gather 0 2 3 ! 4
            row 3 = 4: 7
            """);
        test("gather", "5: as at copy().", """
            fill 0 5: 5 6
            fill 1 4: 1 0
            fill 2 4: 8 9
            make 3 8 2
            gather 0 1 2 ! 5
            gather 0 1 3 ! 5
            gather 3 1 2 ! 5
            row 2 = 4: 8 9
            """, """
            make 0 12 5
            make 1 14 6
            things 2 8: 1 0
            things 3 9: - 1
            fill 4 4: 0 1
            fill 5 4: 0 0
            gather 2 4 3 ! 5
            row 3 = 9: - 14#6
            gather 2 5 3 = 2
            row 3 = 9: 14#6 14#6
            """);
        test("gather", "the first place at which something is amiss counts, and there what is told first.", """
            make 0 12 5
            make 1 14 6
            things 2 8: 1 0
            things 3 9: - -
            fill 4 4: 1 2
            gather 2 4 3 ! 5
            fill 4 4: 1 -1
            gather 2 4 3 ! 5
            fill 4 4: 2 1
            gather 2 4 3 ! 4
            fill 4 4: 0 2
            gather 2 4 3 ! 4
            fill 4 4: 0 1
            gather 2 4 3 ! 5
            row 3 = 9: - -
            """, """
            fill 0 5: 5 6
            fill 1 4: 2 0
            fill 2 4: 0 2
            fill 3 1: 7 8
            gather 0 1 3 ! 4
            gather 0 2 3 ! 5
            row 3 = 1: 7 8
            """);
    }

    private static void scatter() {
        test("scatter", "The place that column x has at k, as an INT, of the row in column d gets what that in "
            + "column c has at k; k from 0 on", """
            fill 0 4: UP
            fill 1 4: LAST_FIRST
            make 2 4 24
            scatter 0 1 2 = 24
            row 2 = 4: DOWN
            row 0 = 4: UP
            """, """
            fill 0 4: 5
            fill 1 1: 23
            make 2 4 24
            scatter 0 1 2 = 1
            number 2 23 4 = 5
            number 2 {0 22} 4 = 0
            """);
        test("scatter", "a later one over an earlier one.", """
            fill 0 4: 5 6 7
            fill 1 2: 1 0 1
            fill 2 4: 1 2 3
            scatter 0 1 2 = 3
            row 2 = 4: 6 7 3
            make 3 12 4
            things 4 8: 3 - 3
            things 5 8: 3 3 3
            scatter 4 1 5 = 3
            row 5 = 8: - 12#4 12#4
            fill 1 2: 1 1 0
            scatter 4 1 5 = 3
            row 5 = 8: 12#4 - 12#4
            """);
        test("scatter", "Answers how many places x has.", """
            fill 0 4: 5 6 7
            fill 1 1: 0 0 0
            fill 2 4: 9
            scatter 0 1 2 = 3
            row 2 = 4: 7
            fill 0 4: 5
            fill 1 1: 2
            fill 2 4: 1 2 3
            scatter 0 1 2 = 1
            row 2 = 4: 1 2 5
            """);
        test("scatter", "an empty row", """
            make 0 4 0
            make 1 1 0
            make 2 8 0
            fill 3 4: 9
            scatter {0 1 2} 1 {0 2 3} = 0
            row 3 = 4: 9
            """);
    }

    private static void scatterRefused() {
        test("scatter", "4: x and c are not as long as each other;", """
            fill 0 4: 0 0
            fill 1 4: 0
            fill 2 4: 0 0 0
            make 3 4 0
            keep
            scatter {1 2 3} 0 2 ! 4
            scatter {0 2 3} 1 0 ! 4
            scatter {0 1 2} 3 0 ! 4
            kept
            """);
        test("scatter", "place by place (k) 4: d has no such place;", """
            fill 0 4: 5 6
            make 1 4 0
            fill 2 4: 8 9
            fill 3 4: 0 -1
            fill 4 4: 0 2
            fill 5 4: -2^31 0
            fill 6 4: 2^31-1 1
            fill 7 1: 0 -128
            fill 8 2: 0 65535
            fill 9 3: 0 -1
            scatter 0 {3..9} 2 ! 4
            scatter 0 {2..9} 1 ! 4
            row 2 = 4: 8 9
            """, """
            make 0 4 24
            fill 1 1: 23
            fill 2 1: 24
            fill 3 4: 7
            scatter 3 2 0 ! 4
            number 0 23 4 = 0
            scatter 3 1 0 = 1
            number 0 23 4 = 7
            """);
        test("scatter", "5: as at copy().", """
            fill 0 5: 5 6
            fill 1 4: 1 0
            fill 2 4: 8 9
            make 3 8 2
            scatter 0 1 2 ! 5
            scatter 0 1 3 ! 5
            scatter 3 1 2 ! 5
            row 2 = 4: 8 9
            """, """
            make 0 12 5
            make 1 14 6
            things 2 8: 1 0
            things 3 9: - 1
            fill 4 4: 1 0
            scatter 2 4 3 ! 5
            row 3 = 9: - 14#6
            things 2 8: 0 1
            fill 4 4: 1 1
            scatter 2 4 3 ! 5
            row 3 = 9: - 14#6
            """);
        test("scatter", "the first place at which something is amiss counts, and there what is told first.", """
            make 0 12 5
            make 1 14 6
            things 2 8: 0 1
            things 3 9: - -
            fill 4 4: 0 2
            scatter 2 4 3 ! 5
            fill 4 4: 0 -1
            scatter 2 4 3 ! 5
            fill 4 4: 2 0
            scatter 2 4 3 ! 4
            things 2 8: 1 0
            fill 4 4: 2 0
            scatter 2 4 3 ! 4
            fill 4 4: 0 2
            scatter 2 4 3 ! 4
            row 3 = 9: - -
            """, """
            fill 0 5: 5 6
            fill 1 4: 2 0
            fill 2 4: 0 2
            fill 3 1: 7 8
            scatter 0 1 3 ! 4
            scatter 0 2 3 ! 5
            row 3 = 1: 7 8
            """);
    }

    /** The reasons that gather and scatter have in common. */
    private static void indexRefused(String call) {
        test(call, "Reasons: 1;", """
            fill 0 4: 0
            fill 11 4: 0
            keep
            CALL {MIN -1 12 MAX} {0 11} {0 11} ! 1
            CALL {0 11} {MIN -1 12 MAX} {0 11} ! 1
            CALL {0 11} {0 11} {MIN -1 12 MAX} ! 1
            kept
            """);
        test(call, "2 (of one of the three);", """
            fill 0 4: 0
            CALL 1 0 0 ! 2
            CALL 0 1 0 ! 2
            CALL 0 0 1 ! 2
            CALL 1 1 1 ! 2
            row 0 = 4: 0
            """);
        test(call, "3 (of one of them);", """
            fill 0 4: 0
            make 1 12 5
            CALL 1 0 0 ! 3
            CALL 0 1 0 ! 3
            CALL 0 0 1 ! 3
            CALL 1 1 1 ! 3
            row 0 = 4: 0
            """);
        test(call, "6: the sort of the row in x doesn't go into INT", """
            fill 0 4: 0
            make 1 0 1
            make 2 5 1
            make 3 6 1
            make 4 7 1
            CALL 0 {1..4} 0 ! 6
            make 5 4 0
            make 6 0 0
            make 7 5 0
            make 8 6 0
            make 9 7 0
            CALL 5 {6..9} 5 ! 6
            """);
        test(call, "or it is no PLAIN ROW", Sentences.forKinds(8, 11, """
            fill 0 4: 0
            make 1 KIND 1
            CALL 0 1 0 ! 6
            CALL 1 1 1 ! 6
            make 2 4 0
            make 3 KIND 0
            CALL 2 3 2 ! 6
            CALL 3 3 3 ! 6
            """));
        test(call, "BYTES, CHARS, SHORTS and INTS go into INT", Sentences.forKinds(1, 4, """
            fill 0 4: 7 8
            fill 1 KIND: 1 0
            make 2 4 2
            CALL 0 1 2 = 2
            row 2 = 4: 8 7
            """));
        test(call, "Of several reasons that counts which is told first at the call", """
            make 1 12 5
            make 2 8 2
            fill 3 5: 0 0
            fill 4 4: 9 9
            fill 5 1: 0 0 0
            CALL {-1 12} {0..3} {0 1 5} ! 1
            CALL {0 1 5} {-1 12} {0 1 5} ! 1
            CALL {0 1 5} {0..3} {-1 12} ! 1
            CALL 0 {1 2 3} {1 2 5} ! 2
            CALL {1 2 5} 0 {1 2 5} ! 2
            CALL {1 2 5} {1 2 3} 0 ! 2
            """, """
            make 1 12 5
            make 2 8 2
            fill 3 5: 0 0
            fill 4 4: 9 9
            fill 5 1: 0 0 0
            CALL 1 {2 3 4} {2 5} ! 3
            CALL {2 5} 1 {2 5} ! 3
            CALL {2 5} {2 3 4} 1 ! 3
            CALL {2 5} {2 3} {2 5} ! 6
            CALL 5 4 5 ! 4
            CALL 4 5 4 ! 4
            CALL 2 5 2 ! 4
            CALL 3 5 2 ! 4
            row 5 = 1: 0 0 0
            """);
    }

    private static void merge() {
        test("merge", "the next one of d comes, if it is LESS than that of c, else that of c", """
            fill 0 5: 2^53+1 0
            fill 1 7: 2^56
            make 2 7 3
            merge 0 1 2 = 3
            row 2 = 7: 9.007199254740992E15 0.0 9.007199254740992E15
            fill 1 5: 2^53
            make 2 5 3
            merge 0 1 2 = 3
            row 2 = 5: 9007199254740992 9007199254740993 0
            """, """
            fill 0 4: 5 1
            fill 1 4: 5 6
            make 2 4 4
            merge 0 1 2 = 4
            row 2 = 4: 5 1 5 6
            merge 1 0 2 = 4
            row 2 = 4: 5 5 1 6
            """, """
            fill 0 4: 5 1 7
            fill 1 4: 6 2
            make 2 4 5
            merge 0 1 2 = 5
            row 2 = 4: 5 1 6 2 7
            """, """
            fill 0 4: 2^31-1
            fill 1 4: -2^31
            make 2 4 2
            merge 0 1 2 = 2
            row 2 = 4: -2147483648 2147483647
            merge 1 0 2 = 2
            row 2 = 4: -2147483648 2147483647
            """);
        test("merge", "then the others. Answers how many places.", """
            fill 0 4: 1 3 5 7 9 11 13 15 17 19 21 23
            fill 1 4: 2 4 6 8 10 12 14 16 18 20 22 24
            make 2 4 24
            merge 0 1 2 = 24
            row 2 = 4: UP
            merge 1 0 2 = 24
            row 2 = 4: UP
            """, """
            fill 0 4: 1 2
            fill 1 4: 5 4 3
            make 2 4 5
            merge 0 1 2 = 5
            row 2 = 4: 1 2 5 4 3
            merge 1 0 2 = 5
            row 2 = 4: 1 2 5 4 3
            """, """
            fill 0 4: UP
            make 1 4 0
            make 2 4 24
            merge 0 1 2 = 24
            row 2 = 4: UP
            fill 0 4: DOWN
            merge 1 0 2 = 24
            row 2 = 4: DOWN
            """);
        test("merge", "an empty row", """
            make 0 1 0
            make 1 7 0
            make 2 0 0
            make 3 4 0
            merge {0 1} {0 1} {0..3} = 0
            merge 2 2 {0..3} = 0
            """);
    }

    private static void mergeRefused() {
        test("merge", "Reasons: 1;", """
            make 0 4 0
            make 11 4 0
            merge {MIN -1 12 MAX} {0 11} {0 11} ! 1
            merge {0 11} {MIN -1 12 MAX} {0 11} ! 1
            merge {0 11} {0 11} {MIN -1 12 MAX} ! 1
            """);
        test("merge", "2 (of one of the three);", """
            make 0 4 0
            merge 1 0 0 ! 2
            merge 0 1 0 ! 2
            merge 0 0 1 ! 2
            merge 1 1 1 ! 2
            """);
        test("merge", "3 (of one of them);", """
            make 0 4 0
            make 1 12 5
            merge 1 0 0 ! 3
            merge 0 1 0 ! 3
            merge 0 0 1 ! 3
            merge 1 1 1 ! 3
            """);
        test("merge", "6: one of the three is no PLAIN ROW", Sentences.forKinds(8, 11, """
            make 0 4 0
            make 1 KIND 0
            merge 1 0 0 ! 6
            merge 0 1 0 ! 6
            merge 0 0 1 ! 6
            merge 1 1 1 ! 6
            fill 0 4: 5
            make 1 KIND 1
            make 2 4 2
            make 3 KIND 2
            merge 1 0 2 ! 6
            merge 0 1 2 ! 6
            merge 0 0 3 ! 6
            merge 1 1 3 ! 6
            """));
        test("merge", "or just one of c, d is FLAGS;", Sentences.forKinds(1, 7, """
            fill 0 0: 1
            fill 1 KIND: 1
            make 2 7 2
            make 3 0 2
            make 4 0 0
            make 5 KIND 0
            keep
            merge 0 1 {2 3} ! 6
            merge 1 0 {2 3} ! 6
            merge 4 1 1 ! 6
            merge 1 4 1 ! 6
            merge 0 5 0 ! 6
            merge 5 0 0 ! 6
            merge 4 5 4 ! 6
            kept
            """));
        test("merge", "4: e is not as long as c and d together;", """
            fill 0 4: 1 2
            fill 1 4: 3
            make 2 4 0
            fill 3 4: 7 7
            fill 4 4: 8 8 8 8
            keep
            merge 0 1 {2 3 4} ! 4
            merge 2 2 {1 3} ! 4
            merge 0 2 {1 2 4} ! 4
            merge 2 0 {1 2 4} ! 4
            kept
            """, """
            make 0 4 24
            make 1 4 1
            make 2 4 0
            merge 0 1 0 ! 4
            merge 1 0 0 ! 4
            merge 0 0 0 ! 4
            merge 0 0 2 ! 4
            merge 0 2 0 = 24
            """);
        test("merge", "place by place of e 5: the value doesn't go into e's sort.", """
            fill 0 1: 1 2
            fill 1 5: 3
            fill 2 4: 7 8 9
            merge 0 1 2 ! 5
            merge 1 0 2 ! 5
            row 2 = 4: 7 8 9
            make 3 5 0
            fill 4 1: 7 8
            merge 0 3 4 = 2
            row 4 = 1: 1 2
            merge 3 0 4 = 2
            fill 5 4: 7
            merge 1 3 5 ! 5
            merge 3 1 5 ! 5
            row 5 = 4: 7
            """, """
            fill 0 0: 1
            fill 1 0: 0
            fill 2 4: 7 8
            merge 0 1 2 ! 5
            row 2 = 4: 7 8
            fill 0 4: 1
            fill 1 4: 0
            fill 2 0: 1 0
            merge 0 1 2 ! 5
            row 2 = 0: 1 0
            """);
        test("merge", "Of several reasons that counts which is told first at the call", """
            make 1 12 5
            make 2 8 2
            fill 3 5: 0 0
            fill 4 0: 1
            fill 5 1: 0 0 0
            merge {-1 12} {0..4} {0 1 5} ! 1
            merge {0..3} {-1 12} {0 1 5} ! 1
            merge {0..3} {0..3} {-1 12} ! 1
            """, """
            make 1 12 5
            make 2 8 2
            fill 3 5: 0 0
            fill 4 0: 1
            fill 5 1: 0 0 0
            merge 0 {1..4} {1 2 5} ! 2
            merge {1..4} 0 {1 2 5} ! 2
            merge {1..3} {1..3} 0 ! 2
            merge 1 {2..4} {2 5} ! 3
            merge {2..4} 1 {2 5} ! 3
            merge {2..4} {2..4} 1 ! 3
            """, """
            make 2 8 2
            fill 3 5: 0 0
            fill 4 0: 1
            fill 5 1: 0 0 0
            merge 2 {3 4} {3 5} ! 6
            merge {3 4} 2 {3 5} ! 6
            merge 3 3 2 ! 6
            merge 3 4 {3 5} ! 6
            merge 4 3 {3 5} ! 6
            merge 3 3 5 ! 4
            row 5 = 1: 0 0 0
            """);
    }

    private static void sortValues() {
        test("sort", "of a PLAIN ROW the LESS one first", """
            fill 0 0: 1 0 1 0
            sort 0 = 2
            row 0 = 0: 0 0 1 1
            fill 1 1: 127 -128 0
            sort 1 = 3
            row 1 = 1: -128 0 127
            fill 2 2: 65535 0 32768
            sort 2 = 3
            row 2 = 2: 0 32768 65535
            fill 3 3: 32767 -32768 0
            sort 3 = 3
            row 3 = 3: -32768 0 32767
            fill 4 4: 2^31-1 -2^31 0
            sort 4 = 3
            row 4 = 4: -2147483648 0 2147483647
            fill 5 5: 2^63-1 -2^63 2^63-2
            sort 5 = 3
            row 5 = 5: -9223372036854775808 9223372036854775806 9223372036854775807
            fill 6 6: 1 -1 0
            sort 6 = 3
            row 6 = 6: -0.125 0.0 0.125
            fill 7 7: 1 -1 0
            sort 7 = 3
            row 7 = 7: -0.125 0.0 0.125
            fill 8 4: DOWN
            sort 8 = 24
            row 8 = 4: UP
            """);
        test("sort", "Answers how many places have not what they had (another value", """
            fill 0 4: 1 2 3
            sort 0 = 0
            fill 0 4: 2 2 2
            sort 0 = 0
            fill 0 4: 2 1
            sort 0 = 2
            fill 0 4: 3 2 1
            sort 0 = 2
            fill 0 4: 2 2 1 2
            sort 0 = 2
            fill 0 4: 5 1 2 3 4
            sort 0 = 5
            fill 0 7: 8 8 0 8
            sort 0 = 2
            fill 0 4: 9
            sort 0 = 0
            """);
        // A row can't come to have a -0, so there is no zero that sort could put in the place of another one.
        test("sort", "also -0 for 0", """
            fill 0 6: 0 0 -1 0
            sort 0 = 2
            row 0 = 6: -0.125 0.0 0.0 0.0
            fill 1 7: 0 0 1 0
            sort 1 = 2
            row 1 = 7: 0.0 0.0 0.0 0.125
            """);
        test("sort", "an empty row", Sentences.forKinds(0, 11, """
            make 0 KIND 0
            sort 0 = 0
            make 0 KIND 1
            sort 0 = 0
            make 0 KIND 24
            sort 0 = 0
            """));
        test("sort", "Reasons: 1; 2; 3.", """
            make 1 12 5
            make 2 14 5
            sort {MIN -1 12 MAX} ! 1
            sort 0 ! 2
            sort {1 2} ! 3
            tag {1 2} = 5
            """);
    }

    private static void sortThings() {
        test("sort", "like ones stay as they stood", """
            make 0 12 7
            make 1 13 7
            make 2 14 7
            make 3 12 6
            things 4 8: 2 0 1 3
            sort 4 = 4
            row 4 = 8: 12#6 14#7 12#7 13#7
            things 4 8: 1 2 0 2 1
            sort 4 = 0
            row 4 = 8: 13#7 14#7 12#7 14#7 13#7
            """, """
            fill 0 4: 1 2
            fill 1 4: 3 4
            things 2 10: 1 0 1
            things 3 10: 1 0 1
            sort 2 = 0
            alike 2 3 = 1
            make 4 9 3
            make 5 8 3
            make 6 9 2
            things 7 11: 4 5 6 4
            things 8 11: 6 4 5 4
            sort 7 = 3
            alike 7 8 = 1
            """);
        test("sort", "of CARDS, BADGES NOTHING first, then by the TAGS, the less one first", """
            make 0 12 MIN
            make 1 13 MAX
            make 2 14 0
            make 3 12 -1
            things 4 8: 1 - 2 3 0 -
            sort 4 = 4
            row 4 = 8: - - 12#-2147483648 12#-1 14#0 13#2147483647
            make 5 14 2^30
            make 6 14 MIN
            make 7 14 2^30-1
            things 8 9: 5 2 - 6 7
            sort 8 = 5
            row 8 = 9: - 14#-2147483648 14#0 14#1073741823 14#1073741824
            """, """
            make 0 14 5
            make 1 12 6
            things 2 8: 1 0
            sort 2 = 2
            row 2 = 8: 14#5 12#6
            """);
        test("sort", "of SHEETS, DECKS NOTHING first, then by how long they are.", """
            make 0 4 24
            make 1 4 0
            fill 2 4: 9
            fill 3 4: -9 -9
            things 4 10: 0 - 3 1 - 2
            sort 4 = 5
            row 4 = 10: - - 4x0 4x1 4x2 4x24
            make 5 9 24
            make 6 8 0
            make 7 8 23
            things 8 11: 5 7 - 6
            sort 8 = 4
            row 8 = 11: - 8x0 8x23 9x24
            """);
        test("sort", "another thing)", """
            make 0 12 7
            make 1 12 7
            make 2 12 6
            things 3 8: 0 0 2 0
            sort 3 = 2
            row 3 = 8: 12#6 12#7 12#7 12#7
            things 3 8: 0 1 2
            sort 3 = 3
            things 3 8: 0 0 2
            sort 3 = 2
            things 3 8: 0 - -
            sort 3 = 2
            row 3 = 8: - - 12#7
            things 3 8: 0 0 -
            sort 3 = 2
            things 3 8: 0 1 -
            sort 3 = 3
            """);
    }

    private static void turn() {
        test("turn", "The places of the row in column c move on by n (the last ones come first", """
            fill 0 4: 1 2 3
            turn 0 1 = 3
            row 0 = 4: 3 1 2
            fill 0 4: 1 2 3
            turn 0 2 = 3
            row 0 = 4: 2 3 1
            fill 0 4: 1 2 3
            turn 0 0 = 3
            row 0 = 4: 1 2 3
            """);
        test("turn", "n beyond the row's length", """
            fill 0 4: 1 2 3
            turn 0 3 = 3
            row 0 = 4: 1 2 3
            turn 0 4 = 3
            row 0 = 4: 3 1 2
            fill 0 4: 1 2 3
            turn 0 MAX = 3
            row 0 = 4: 3 1 2
            fill 0 4: UP
            turn 0 24 = 24
            row 0 = 4: UP
            turn 0 25 = 24
            row 0 = 4: 24 1 2 3 4 5 6 7 8 9 10 11 12 13 14 15 16 17 18 19 20 21 22 23
            fill 0 4: UP
            turn 0 MAX = 24
            row 0 = 4: 18 19 20 21 22 23 24 1 2 3 4 5 6 7 8 9 10 11 12 13 14 15 16 17
            """);
        test("turn", "n below 0: back)", """
            fill 0 4: 1 2 3
            turn 0 -1 = 3
            row 0 = 4: 2 3 1
            fill 0 4: 1 2 3
            turn 0 -2 = 3
            row 0 = 4: 3 1 2
            fill 0 4: 1 2 3
            turn 0 -3 = 3
            row 0 = 4: 1 2 3
            turn 0 -4 = 3
            row 0 = 4: 2 3 1
            fill 0 4: 1 2 3
            turn 0 MIN = 3
            row 0 = 4: 3 1 2
            fill 0 4: UP
            turn 0 -25 = 24
            row 0 = 4: 2 3 4 5 6 7 8 9 10 11 12 13 14 15 16 17 18 19 20 21 22 23 24 1
            fill 0 4: UP
            turn 0 MIN = 24
            row 0 = 4: 9 10 11 12 13 14 15 16 17 18 19 20 21 22 23 24 1 2 3 4 5 6 7 8
            """);
        test("turn", "Answers how many places.", Sentences.forKinds(0, 11, """
            make 0 KIND 0
            turn 0 {MIN -1 0 1 MAX} = 0
            make 0 KIND 1
            turn 0 {MIN -1 0 1 MAX} = 1
            make 0 KIND 24
            turn 0 {MIN -1 0 1 MAX} = 24
            """));
        test("turn", "rows of things", """
            make 0 12 5
            things 1 8: 0 - -
            turn 1 -1 = 3
            row 1 = 8: - - 12#5
            turn 1 1 = 3
            row 1 = 8: 12#5 - -
            """);
        test("turn", "Reasons: 1; 2; 3.", """
            make 1 12 5
            make 2 14 5
            turn {MIN -1 12 MAX} 1 ! 1
            turn 0 {MIN 0 1} ! 2
            turn {1 2} {MIN 0 1} ! 3
            tag {1 2} = 5
            """);
    }
}
