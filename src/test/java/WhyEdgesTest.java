/** WHY and promise 25: the boundary cases of each reason, and what a refused call leaves, a test for each sentence. */
public final class WhyEdgesTest {
    private static final Sentences SENTENCES = new Sentences();
    /** A house that each refused call is tried on; its rows have what can't be taken for what was there at first. */
    private static final String HOUSE = """
        make 0 12 5
        make 1 14 6
        fill 2 4: 1 0
        fill 3 1: 0 1
        fill 4 5: 7 8
        fill 5 0: 1 0
        things 6 8: 1 0
        things 7 9: - 1
        things 8 10: 2 -
        fill 9 4: 0 2
        """;

    public static void main(String[] args) {
        latestCall();
        done();
        wrongNumber();
        nothingThere();
        noRow();
        otherReasons();
        refusedChangesNothing();
        SENTENCES.end("WhyEdgesTest");
    }

    private static void latestCall() {
        SENTENCES.test("WHY, of the latest call but why()", """
            why = 0
            kind 12 ! 1
            why = 1
            why = 1
            places 0 ! 2
            why = 2
            why = 2
            kind 0 = -1
            why = 0
            make 0 12 5
            why = 0
            places 0 ! 3
            why = 3
            tag 1 ! 5
            why = 5
            make 0 4 0
            what 0 0 ! 4
            why = 4
            take 0 0 0 ! 6
            why = 6
            why = 6
            kind -1 ! 1
            why = 1
            """);
    }

    private static void done() {
        SENTENCES.test("0 it was done", """
            fill 0 4: 0 1
            fill 1 4: 0 0 1 1
            make 2 12 5
            things 3 8: 2 -
            """ + afterRefused("make 4 4 2 = 1", "lay 0 5 = 1", "places 0 = 2", "kind 0 = 4", "tag 2 = 5",
            "load 2 = 5", "put 0 0 4 0 = 1", "putBoxed 0 0 4 0 = 1", "putThing 3 0 2 = 1", "number 0 1 4 = 1",
            "point 0 1 7 = 1", "what 0 0 = 4", "take 3 0 6 = 1", "copy 0 4 = 2", "gather 0 0 4 = 2",
            "scatter 0 0 4 = 2", "merge 0 4 1 = 4", "sort 0 = 0", "turn 3 2 = 2", "sum 0 = 1", "total 0 = 1",
            "find 0 0 4 1 = 1", "alike 0 4 = 1"));
        SENTENCES.test("0 it was done (with the answer 0, or -1)", """
            make 0 4 0
            make 1 4 1
            make 2 12 0
            make 3 8 1
            """ + afterRefused("lay 4 5 = 0", "places 0 = 0", "kind 4 = -1", "tag 2 = 0", "load 2 = 0",
            "putThing 3 0 4 = 0", "number 1 0 4 = 0", "point 1 0 6 = 0", "what 3 0 = -1", "take 3 0 5 = 0",
            "copy 0 0 = 0", "gather 0 0 0 = 0", "scatter 0 0 0 = 0", "merge 0 0 0 = 0", "sort 1 = 0", "turn 0 1 = 0",
            "sum 1 = 0", "total 1 = 0", "find 1 0 4 9 = -1", "find 1 0 4 0 = 0", "alike 0 1 = 0", "make 1 0 0",
            "kind 1 = 0"));
    }

    private static String afterRefused(String... calls) {
        StringBuilder run = new StringBuilder();
        for (String call : calls) {
            run.append("kind 12 ! 1\n").append(call).append("\n");
        }
        return run.toString();
    }

    private static void wrongNumber() {
        String[] calls = {"make C 4 1", "lay C 0", "lay 0 C", "places C", "kind C", "tag C", "load C", "put C 0 4 1",
            "putBoxed C 0 4 1", "putThing C 0 0", "putThing 0 0 C", "number C 0 4", "point C 0 7", "what C 0",
            "take C 0 0", "take 0 0 C", "copy C 0", "copy 0 C", "gather C 0 0", "gather 0 C 0", "gather 0 0 C",
            "scatter C 0 0", "scatter 0 C 0", "scatter 0 0 C", "merge C 0 0", "merge 0 C 0", "merge 0 0 C", "sort C",
            "turn C 1", "sum C", "total C", "find C 0 4 0", "alike C 0", "alike 0 C"};
        for (String call : calls) {
            String wrong = call.replace("C", "{MIN -1 12 13 MAX}") + " ! 1\n";
            SENTENCES.test("1 a number that is not as told (a column that is not 0 .. 11 is such a one at every call): "
                + call, wrong + "kind {0..11} = -1\n", HOUSE + "keep\n" + wrong + "kept\n", "make 0 12 5\n" + wrong);
        }
        SENTENCES.test("the columns 0 and 11 are such as are told", both(0), both(11));
    }

    /** Calls on one column that are done, if it is one. */
    private static String both(int c) {
        return """
            make C 12 5 = 1
            tag C = 5
            load C = 5
            lay C C = 1
            kind C = 12
            make C 8 1 = 1
            putThing C 0 5 = 0
            take C 0 5 = 0
            make C 4 1 = 1
            places C = 1
            put C 0 4 0 = 1
            putBoxed C 0 4 0 = 1
            number C 0 4 = 0
            point C 0 7 = 0
            what C 0 = 4
            copy C C = 1
            gather C C C = 1
            scatter C C C = 1
            sort C = 0
            turn C 1 = 1
            sum C = 0
            total C = 0
            find C 0 4 0 = 0
            alike C C = 1
            make C 4 0 = 1
            merge C C C = 0
            """.replace("C", "" + c);
    }

    private static void nothingThere() {
        SENTENCES.test("2 NOTHING where a row is wanted", HOUSE + "keep\n" + where("{10 11}", 2) + "kept\n");
    }

    private static void noRow() {
        SENTENCES.test("3 a thing that is no row", HOUSE + "keep\n" + where("{0 1}", 3) + "kept\n");
    }

    /** Every call that wants a row, with another column in the place of each. */
    private static String where(String columns, int reason) {
        String[] calls = {"places C", "put C 0 4 1", "putBoxed C 0 4 1", "putThing C 0 0", "number C 0 4",
            "point C 0 7", "what C 0", "take C 0 0", "copy C 2", "copy 2 C", "gather C 3 2", "gather 2 C 2",
            "gather 2 3 C", "scatter C 3 2", "scatter 2 C 2", "scatter 2 3 C", "merge C 2 2", "merge 2 C 2",
            "merge 2 2 C", "sort C", "turn C 1", "sum C", "total C", "find C 0 4 0", "alike C 2", "alike 2 C"};
        StringBuilder run = new StringBuilder();
        for (String call : calls) {
            run.append(call.replace("C", columns)).append(" ! ").append(reason).append("\n");
        }
        return run.toString();
    }

    private static void otherReasons() {
        SENTENCES.test("4 a place that a row has not", HOUSE + """
            keep
            put 2 {-1 2} 4 1 ! 4
            putBoxed 2 {-1 2} 4 1 ! 4
            putThing 6 {-1 2} 0 ! 4
            number 2 {-1 2} 4 ! 4
            point 2 {-1 2} 7 ! 4
            what 2 {-1 2} ! 4
            take 6 {-1 2} 0 ! 4
            gather 2 9 2 ! 4
            scatter 2 9 2 ! 4
            kept
            """);
        SENTENCES.test("or rows not as long as they must be", """
            fill 0 4: 0
            fill 1 4: 0 0
            keep
            copy 0 1 ! 4
            copy 1 0 ! 4
            gather 0 0 1 ! 4
            gather 0 1 0 ! 4
            scatter 0 1 0 ! 4
            scatter 1 0 0 ! 4
            merge 0 0 0 ! 4
            merge 0 1 1 ! 4
            kept
            alike 0 1 = 0
            """);
        SENTENCES.test("5 a value or thing that doesn't go, or fit, where it should", HOUSE + """
            keep
            tag {2 6 10} ! 5
            load {2 6 10} ! 5
            put 2 0 5 1 ! 5
            putBoxed 2 0 5 1 ! 5
            putThing 7 0 0 ! 5
            number 4 0 4 ! 5
            point 5 0 7 ! 5
            copy 4 2 ! 5
            copy 6 7 ! 5
            gather 6 2 7 ! 5
            scatter 6 2 7 ! 5
            kept
            """);
        SENTENCES.test("6 a row of another kind than is wanted.", HOUSE + """
            keep
            take 2 0 0 ! 6
            gather 2 4 2 ! 6
            scatter 2 4 2 ! 6
            merge 2 5 9 ! 6
            merge 2 6 9 ! 6
            sum {5 6 7 8} ! 6
            total {5 6 7 8} ! 6
            find {6 7 8} 0 4 0 ! 6
            kept
            """);
    }

    private static void refusedChangesNothing() {
        String[] calls = {"make {-1 12} 4 2 ! 1", "make 2 {-1 15} 2 ! 1", "make 2 4 {-1 25} ! 1", "lay 2 12 ! 1",
            "lay 12 2 ! 1", "put 2 0 8 3 ! 1", "put 2 2 4 3 ! 4", "put 2 0 5 3 ! 5", "put 6 0 4 3 ! 5",
            "putBoxed 2 0 8 3 ! 1", "putBoxed 2 2 4 3 ! 4", "putBoxed 2 0 5 3 ! 5", "putBoxed 6 0 4 3 ! 5",
            "putThing 6 0 12 ! 1", "putThing 6 2 1 ! 4", "putThing 7 1 0 ! 5", "putThing 2 0 10 ! 5",
            "number 2 0 6 ! 1", "point 2 0 5 ! 1", "take 6 0 12 ! 1", "take 10 0 2 ! 2", "take 0 0 2 ! 3",
            "take 2 0 2 ! 6", "take 6 2 2 ! 4", "copy 2 7 ! 5", "copy 6 7 ! 5", "copy 4 2 ! 5", "gather 6 2 7 ! 5",
            "gather 6 3 7 ! 5", "gather 4 9 2 ! 5", "gather 2 9 4 ! 4", "scatter 6 2 7 ! 5", "scatter 6 3 7 ! 5",
            "scatter 2 9 4 ! 4", "merge 2 5 9 ! 6", "merge 2 3 4 ! 4", "sort 10 ! 2", "sort 0 ! 3", "turn 10 1 ! 2",
            "turn 0 1 ! 3"};
        for (String call : calls) {
            SENTENCES.test("A refused call answers 0 and changes nothing but WHY: " + call,
                HOUSE + "keep\n" + call + "\nkept\n");
        }
        SENTENCES.test("A refused call answers 0 and changes nothing but WHY: merge, if just the last doesn't go", """
            fill 0 1: 1 2 3
            fill 1 5: 4
            fill 2 4: 7 8 9 6
            keep
            merge 0 1 2 ! 5
            merge 1 0 2 ! 5
            kept
            """);
        SENTENCES.test("A refused call answers 0 and changes nothing but WHY: things stay the same ones", """
            make 0 14 5
            make 1 14 5
            make 2 12 5
            things 3 8: 1 1 2
            things 4 9: 0 - 0
            things 5 9: 0 - 0
            fill 6 4: 0 1 2
            copy 3 4 ! 5
            gather 3 6 4 ! 5
            scatter 3 6 4 ! 5
            alike 4 5 = 1
            """);
    }
}
