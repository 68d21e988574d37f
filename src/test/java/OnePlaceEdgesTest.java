/** The boundary cases of promises 8 to 14 (put to take), a test for each sentence. */
public final class OnePlaceEdgesTest {
    private static final Sentences SENTENCES = new Sentences();

    public static void main(String[] args) {
        put("put");
        put("putBoxed");
        putThing();
        number();
        point();
        what();
        take();
        SENTENCES.end("OnePlaceEdgesTest");
    }

    private static void put(String call) {
        test(call, "Place i of the row in column c gets the value that is TOLD by sort, a, b. Answers 1.", """
            make 0 4 24
            CALL 0 0 4 7 = 1
            CALL 0 23 4 8 = 1
            number 0 0 4 = 7
            number 0 23 4 = 8
            number 0 {1..22} 4 = 0
            CALL 0 0 4 0 = 1
            number 0 0 4 = 0
            make 11 0 1
            CALL 11 0 0 1 = 1
            row 11 = 0: 1
            """);
        test(call, "Reasons: 1 (c;", """
            make 0 4 1
            make 11 4 1
            keep
            CALL {MIN -1 12 MAX} 0 4 1 ! 1
            kept
            """);
        test(call, "sort not 0 .. 7);", """
            make 0 7 1
            keep
            CALL 0 0 {MIN -1 8 MAX} 1 ! 1
            kept
            """);
        test(call, "Reasons: 2", """
            CALL {0..11} 0 4 1 ! 2
            """);
        test(call, "Reasons: 3", """
            make 0 12 5
            make 1 13 5
            make 2 14 5
            keep
            CALL {0 1 2} 0 4 1 ! 3
            kept
            """);
        test(call, "Reasons: 4", """
            make 0 4 0
            fill 1 4: 9
            make 2 4 24
            CALL 0 {MIN -1 0 1 MAX} 4 1 ! 4
            CALL 1 {MIN -1 1 2 24 MAX} 4 1 ! 4
            CALL 2 {MIN -1 24 25 MAX} 4 1 ! 4
            row 1 = 4: 9
            number 2 {0 23} 4 = 0
            """);
        test(call, "5: it is no PLAIN ROW", Sentences.forKinds(8, 11, """
            make 0 KIND 2
            CALL 0 {0 1} {0..7} 0 ! 5
            what 0 {0 1} = -1
            """));
        test(call, "or the sort doesn't go into its sort.", """
            fill 0 1: 5
            fill 1 3: 5
            fill 2 4: 5
            fill 3 6: 5
            fill 4 0: 1
            keep
            CALL 0 0 {0 2..7} 0 ! 5
            CALL 1 0 {0 2 4..7} 0 ! 5
            CALL 2 0 {0 5 6 7} 0 ! 5
            CALL 3 0 {0 7} 0 ! 5
            CALL 4 0 {1..7} 0 ! 5
            kept
            """);
        test(call, "Of several reasons that counts which is told first at the call", """
            make 1 12 5
            fill 2 4: 9
            make 3 8 1
            CALL {-1 12} 0 8 1 ! 1
            CALL 0 0 {-1 8} 1 ! 1
            CALL 1 0 {-1 8} 1 ! 1
            CALL 2 {-1 1} {-1 8} 1 ! 1
            CALL 3 {-1 0 1} {-1 8} 1 ! 1
            CALL 0 {-1 0 24} 7 1 ! 2
            CALL 1 {-1 0 24} 7 1 ! 3
            CALL 2 {-1 1} {0 5..7} 1 ! 4
            CALL 3 {-1 1} {0..7} 1 ! 4
            row 2 = 4: 9
            """);
    }

    private static void test(String call, String sentence, String... runs) {
        for (int k = 0; k < runs.length; k++) {
            runs[k] = runs[k].replace("CALL", call);
        }
        SENTENCES.test(call + "(): " + sentence, runs);
    }

    private static void putThing() {
        test("putThing", "Place i of the row in column c gets what column d holds, a thing or NOTHING. "
            + "Answers 1 if that is a thing, 0 if NOTHING.", """
            make 0 12 5
            make 1 8 24
            putThing 1 0 0 = 1
            putThing 1 23 0 = 1
            what 1 {0 23} = 12
            what 1 {1..22} = -1
            putThing 1 0 2 = 0
            what 1 0 = -1
            putThing 1 0 2 = 0
            what 1 23 = 12
            tag 0 = 5
            """);
        test("putThing", "Reasons: 1;", """
            make 0 8 1
            make 11 12 5
            keep
            putThing {MIN -1 12 MAX} 0 11 ! 1
            putThing 0 0 {MIN -1 12 MAX} ! 1
            putThing -1 0 12 ! 1
            kept
            """);
        test("putThing", "2, 3 (of column c);", """
            make 0 12 5
            make 1 14 5
            make 2 8 1
            keep
            putThing 3 0 0 ! 2
            putThing 3 0 3 ! 2
            putThing {0 1} 0 0 ! 3
            putThing {0 1} 0 3 ! 3
            putThing 2 0 3 = 0
            kept
            """);
        test("putThing", "4;", Sentences.forKinds(8, 11, """
            make 0 KIND 0
            make 1 KIND 24
            putThing 0 {MIN -1 0 1 MAX} 2 ! 4
            putThing 1 {MIN -1 24 25 MAX} 2 ! 4
            what 1 {0 23} = -1
            """));
        test("putThing", "5: it is a PLAIN ROW (NOTHING doesn't go into it either)", Sentences.forKinds(0, 7, """
            make 0 12 5
            make 1 14 5
            make 2 4 1
            make 3 8 1
            fill 4 KIND: 1
            keep
            putThing 4 0 {0..3} ! 5
            putThing 4 0 4 ! 5
            putThing 4 0 5 ! 5
            kept
            """));
        test("putThing", "or the thing doesn't fit.", """
            make 0 12 5
            make 1 13 6
            make 2 14 7
            make 3 4 2
            make 4 5 2
            things 5 8: 2
            things 6 9: 2
            things 7 10: 3
            things 8 11: 5
            keep
            putThing 5 0 {3..8} ! 5
            putThing 6 0 {0 1 3..8} ! 5
            putThing 7 0 {0..2 4..8} ! 5
            putThing 8 0 {0..4 7 8} ! 5
            kept
            """);
        test("putThing", "Of several reasons that counts which is told first at the call", """
            make 1 12 5
            make 2 4 1
            make 3 9 1
            putThing {0 1 2 3} {-1 0 1} {-1 12} ! 1
            putThing {-1 12} {-1 0} {0 1 2} ! 1
            putThing 0 {-1 0 1} {0 1} ! 2
            putThing 1 {-1 0 1} {0 1 2} ! 3
            putThing {2 3} {-1 1} {0 1 2} ! 4
            putThing 2 0 {0 1} ! 5
            putThing 3 0 1 ! 5
            """);
    }

    private static void number() {
        test("number", "The value at place i of the row in column c as one of a sort 0 .. 5: its number.", """
            fill 0 0: 0 1
            number 0 0 0 = 0
            number 0 1 0 = 1
            fill 1 1: -128 127
            number 1 0 {1 3 4 5} = -128
            number 1 1 {1 3 4 5} = 127
            fill 2 2: 0 65535
            number 2 0 {2 4 5} = 0
            number 2 1 {2 4 5} = 65535
            fill 3 3: -32768 32767
            number 3 0 {3 4 5} = -32768
            number 3 1 {3 4 5} = 32767
            fill 4 4: -2^31 2^31-1
            number 4 0 {4 5} = -2147483648
            number 4 1 {4 5} = 2147483647
            fill 5 5: -2^63 2^63-1
            number 5 0 5 = -2^63
            number 5 1 5 = 2^63-1
            """);
        test("number", "Reasons: 1 (c; sort not 0 .. 5);", """
            make 0 5 1
            make 11 5 1
            make 1 6 1
            number {MIN -1 12 MAX} 0 5 ! 1
            number {0 11 1} 0 {MIN -1 6 7 8 MAX} ! 1
            """);
        test("number", "2; 3;", """
            make 1 12 5
            make 2 14 5
            number 0 0 5 ! 2
            number {1 2} 0 5 ! 3
            """);
        test("number", "4;", Sentences.forKinds(0, 11, """
            make 0 KIND 0
            make 1 KIND 1
            make 2 KIND 24
            number 0 {MIN -1 0 MAX} 5 ! 4
            number 1 {MIN -1 1 MAX} 5 ! 4
            number 2 {MIN -1 24 25 MAX} 5 ! 4
            """));
        test("number", "5: it is no PLAIN ROW", Sentences.forKinds(8, 11, """
            make 0 KIND 1
            number 0 0 {0..5} ! 5
            """));
        test("number", "or its sort doesn't go into that.", """
            make 0 0 1
            number 0 0 {1..5} ! 5
            make 1 1 1
            number 1 0 {0 2} ! 5
            make 2 2 1
            number 2 0 {0 1 3} ! 5
            make 3 3 1
            number 3 0 {0 1 2} ! 5
            make 4 4 1
            number 4 0 {0..3} ! 5
            make 5 5 1
            number 5 0 {0..4} ! 5
            make 6 6 1
            make 7 7 1
            number {6 7} 0 {0..5} ! 5
            """);
        test("number", "Of several reasons that counts which is told first at the call", """
            make 1 12 5
            make 2 5 1
            make 3 8 1
            number {-1 12} 0 {-1 6} ! 1
            number {0..3} {-1 0 1} {-1 6} ! 1
            number 0 {-1 0 1} {0 5} ! 2
            number 1 {-1 0 1} {0 5} ! 3
            number {2 3} {-1 1} {0..5} ! 4
            number 2 0 {0..4} ! 5
            number 3 0 {0..5} ! 5
            """);
    }

    private static void point() {
        test("point", "Likewise as one of sort 6 or 7.", """
            fill 0 6: 1 -1 2^63-1
            point 0 0 {6 7} = 0.125
            point 0 1 {6 7} = -0.125
            point 0 2 {6 7} = 0x1p60
            fill 1 7: 1 -2^63
            point 1 0 7 = 0.125
            point 1 1 7 = -0x1p60
            fill 2 1: -128 127
            point 2 0 {6 7} = -128
            point 2 1 {6 7} = 127
            fill 3 2: 65535
            point 3 0 {6 7} = 65535
            fill 4 3: -32768
            point 4 0 {6 7} = -32768
            fill 5 4: 2^31-1 2^24+1 2^24+3
            point 5 0 6 = 0x1p31
            point 5 0 7 = 2147483647
            point 5 1 6 = 16777216
            point 5 1 7 = 16777217
            point 5 2 6 = 16777220
            point 5 2 7 = 16777219
            fill 6 5: 2^63-1 2^53+1 2^60+2^36+1
            point 6 0 {6 7} = 0x1p63
            point 6 1 {6 7} = 0x1p53
            point 6 2 6 = 0x1.000002p60
            point 6 2 7 = 0x1.000001p60
            """);
        test("point", "Reasons: 1 (c; sort not 6, 7);", """
            make 0 7 1
            make 11 7 1
            make 1 5 1
            point {MIN -1 12 MAX} 0 7 ! 1
            point {0 11 1} 0 {MIN -1 0..5 8 MAX} ! 1
            """);
        test("point", "2; 3;", """
            make 1 12 5
            make 2 14 5
            point 0 0 {6 7} ! 2
            point {1 2} 0 {6 7} ! 3
            """);
        test("point", "4;", Sentences.forKinds(0, 11, """
            make 0 KIND 0
            make 1 KIND 1
            make 2 KIND 24
            point 0 {MIN -1 0 MAX} 7 ! 4
            point 1 {MIN -1 1 MAX} 7 ! 4
            point 2 {MIN -1 24 25 MAX} 7 ! 4
            """));
        test("point", "5: as at number().", """
            fill 0 0: 1
            point 0 0 {6 7} ! 5
            fill 1 7: 8
            point 1 0 6 ! 5
            make 2 8 1
            make 3 9 1
            make 4 10 1
            make 5 11 1
            point {2..5} 0 {6 7} ! 5
            """);
        test("point", "Of several reasons that counts which is told first at the call", """
            make 1 12 5
            make 2 7 1
            make 3 8 1
            make 4 0 1
            point {-1 12} 0 {-1 5 8} ! 1
            point {0..4} {-1 0 1} {-1 5 8} ! 1
            point 0 {-1 0 1} {6 7} ! 2
            point 1 {-1 0 1} {6 7} ! 3
            point {2 3 4} {-1 1} {6 7} ! 4
            point 2 0 6 ! 5
            point {3 4} 0 {6 7} ! 5
            """);
    }

    private static void what() {
        test("what", "the sort of a value (0 .. 7)", Sentences.forKinds(0, 7, """
            make 0 KIND 24
            what 0 {0 23} = KIND
            """));
        test("what", "the kind of a thing", """
            make 0 12 5
            make 1 13 5
            make 2 14 5
            make 3 4 0
            make 4 8 0
            make 5 9 24
            things 6 8: 0 1 2
            things 7 9: 2
            things 8 10: 3
            things 9 11: 4 5
            what 6 0 = 12
            what 6 1 = 13
            what 6 2 = 14
            what 7 0 = 14
            what 8 0 = 4
            what 9 0 = 8
            what 9 1 = 9
            """);
        test("what", "-1 NOTHING.", Sentences.forKinds(8, 11, """
            make 0 KIND 24
            what 0 {0 23} = -1
            """));
        test("what", "Reasons: 1; 2; 3; 4.", """
            make 1 12 5
            make 2 14 5
            make 3 0 0
            make 4 11 24
            what {MIN -1 12 MAX} 0 ! 1
            what 0 {-1 0 24} ! 2
            what {1 2} {-1 0 24} ! 3
            what 3 {MIN -1 0 1 MAX} ! 4
            what 4 {MIN -1 24 25 MAX} ! 4
            what {-1 12} {-1 24} ! 1
            """);
    }

    private static void take() {
        test("take", "Column d holds what is at place i of the row in column c, a thing or NOTHING. "
            + "Answers 1 if that is a thing, 0 if NOTHING.", """
            make 0 12 5
            make 1 8 24
            putThing 1 23 0
            putThing 1 0 0
            make 0 12 6
            take 1 0 2 = 1
            tag 2 = 5
            take 1 23 11 = 1
            tag 11 = 5
            what 1 {0 23} = 12
            take 1 1 2 = 0
            kind 2 = -1
            tag 11 = 5
            take 1 22 1 = 0
            kind 1 = -1
            """, """
            fill 0 4: 3
            things 1 10: 0
            take 1 0 1 = 1
            row 1 = 4: 3
            put 1 0 4 4
            row 0 = 4: 4
            """);
        test("take", "Reasons: 1;", """
            make 1 12 5
            things 0 8: 1
            things 10 8: 1
            keep
            take {MIN -1 12 MAX} 0 1 ! 1
            take {0 10} 0 {MIN -1 12 MAX} ! 1
            take -1 0 12 ! 1
            kept
            """);
        test("take", "2, 3 (of column c);", """
            make 1 12 5
            make 2 14 6
            keep
            take 0 0 1 ! 2
            take 0 0 0 ! 2
            take {1 2} 0 0 ! 3
            take {1 2} 0 1 ! 3
            kept
            """);
        test("take", "6: it is a PLAIN ROW;", Sentences.forKinds(0, 7, """
            fill 0 KIND: 1
            make 1 KIND 0
            make 2 12 5
            keep
            take 0 0 2 ! 6
            take 1 0 2 ! 6
            kept
            """));
        test("take", "4.", Sentences.forKinds(8, 11, """
            make 0 KIND 0
            make 1 KIND 24
            make 2 12 5
            take 0 {MIN -1 0 1 MAX} 2 ! 4
            take 1 {MIN -1 24 25 MAX} 2 ! 4
            tag 2 = 5
            """));
        test("take", "Of several reasons that counts which is told first at the call", """
            make 1 12 5
            make 2 4 1
            make 3 8 1
            take {-1 12} {-1 0} {0 1 12} ! 1
            take {0..3} {-1 0 1} {-1 12} ! 1
            take 0 {-1 0 24} {0 1} ! 2
            take 1 {-1 0 24} {0 1} ! 3
            take 2 {MIN -1 0 1 MAX} {0 1} ! 6
            take 3 {-1 1} {0 1} ! 4
            tag 1 = 5
            """);
    }
}
