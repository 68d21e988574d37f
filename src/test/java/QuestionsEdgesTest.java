/** The boundary cases of promises 21 to 24 (sum, total, find, alike), a test for each sentence. */
public final class QuestionsEdgesTest {
    private static final Sentences SENTENCES = new Sentences();

    public static void main(String[] args) {
        sum();
        total();
        findPlaces();
        findValues();
        alike();
        nothingChanges();
        SENTENCES.end("QuestionsEdgesTest");
    }

    private static void test(String call, String sentence, String... runs) {
        SENTENCES.test(call + "(): " + sentence, runs);
    }

    private static void sum() {
        test("sum", "The sum of the numbers of the row in column c, which is of sorts 1 to 5", """
            fill 0 1: -128 -128 127
            sum 0 = -129
            fill 1 2: 65535 65535
            sum 1 = 131070
            fill 2 3: -32768 -32768 1
            sum 2 = -65535
            fill 3 4: 2^31-1 2^31-1
            sum 3 = 4294967294
            fill 3 4: -2^31 -2^31
            sum 3 = -4294967296
            fill 4 5: 2^53 1 1
            sum 4 = 9007199254740994
            fill 5 1: 127 127 127 127 127 127 127 127 127 127 127 127 127 127 127 127 127 127 127 127 127 127 127 127
            sum 5 = 3048
            """);
        test("sum", "(64 bits that wrap)", """
            fill 0 5: 2^63-1 1
            sum 0 = -2^63
            fill 0 5: -2^63 -1
            sum 0 = 2^63-1
            fill 0 5: -2^63 -2^63
            sum 0 = 0
            fill 0 5: 2^63-1 2^63-1 2
            sum 0 = 0
            fill 0 5: 2^63-1 1 -1
            sum 0 = 2^63-1
            """);
        test("sum", "an empty row", Sentences.forKinds(1, 5, """
            make 0 KIND 0
            sum 0 = 0
            make 0 KIND 24
            sum 0 = 0
            """));
        test("sum", "Reasons: 1; 2; 3; 6: it is of another kind.", """
            make 1 12 5
            make 2 14 5
            make 3 0 0
            make 4 6 0
            make 5 7 0
            make 6 8 0
            make 7 9 0
            make 8 10 0
            make 9 11 0
            sum {MIN -1 12 MAX} ! 1
            sum 0 ! 2
            sum {1 2} ! 3
            sum {3..9} ! 6
            fill 3 0: 1
            make 4 6 1
            make 5 7 1
            make 6 8 1
            make 7 9 1
            make 8 10 1
            make 9 11 1
            sum {3..9} ! 6
            """);
    }

    private static void total() {
        test("total", "The sum of the DOUBLES that the values of the row in column c become", """
            fill 0 5: 2^53+1
            total 0 = 0x1p53
            fill 1 5: 2^63-1 2^63-1
            total 1 = 0x1p64
            fill 1 5: -2^63 -2^63
            total 1 = -0x1p64
            fill 2 4: 2^31-1 2^31-1
            total 2 = 4294967294
            fill 2 4: 2^24+1
            total 2 = 16777217
            fill 3 1: -128 127
            total 3 = -1
            fill 4 2: 65535 65535
            total 4 = 131070
            fill 5 3: -32768 -32768
            total 5 = -65536
            fill 6 6: 2^24-1 2^24-1 2^24-1
            total 6 = 6291455.625
            fill 7 7: 1 1 -3
            total 7 = -0.125
            """);
        test("total", "one added to those before it, from 0 on.", """
            fill 0 5: 2^53 1 1
            total 0 = 0x1p53
            fill 0 5: 1 1 2^53
            total 0 = 9007199254740994
            fill 0 5: 1 2^53 1
            total 0 = 0x1p53
            fill 0 5: 2^53 1 -2^53
            total 0 = 0
            fill 0 7: 2^56 8 8
            total 0 = 0x1p53
            """);
        test("total", "an empty row", Sentences.forKinds(1, 7, """
            make 0 KIND 0
            total 0 = 0
            make 0 KIND 24
            total 0 = 0
            """));
        test("total", "Reasons: 1; 2; 3; 6: it is no PLAIN ROW, or FLAGS.", """
            make 1 12 5
            make 2 14 5
            make 3 0 0
            make 4 8 0
            make 5 9 0
            make 6 10 0
            make 7 11 0
            total {MIN -1 12 MAX} ! 1
            total 0 ! 2
            total {1 2} ! 3
            total {3..7} ! 6
            fill 3 0: 1
            make 4 8 1
            make 5 9 1
            make 6 10 1
            make 7 11 1
            total {3..7} ! 6
            """);
    }

    private static void findPlaces() {
        test("find", "The first place of the PLAIN ROW in column c, from place i on", """
            fill 0 4: 7 8 7 8
            find 0 0 4 7 = 0
            find 0 1 4 7 = 2
            find 0 2 4 7 = 2
            find 0 3 4 7 = -1
            find 0 3 4 8 = 3
            make 1 4 24
            put 1 23 4 5
            find 1 {0 22 23} 4 5 = 23
            """);
        test("find", "(from 0 if i is below that)", """
            fill 0 4: 7 8 7
            find 0 {-1 MIN} 4 7 = 0
            find 0 {-1 MIN} 4 8 = 1
            find 0 {-1 MIN} 4 9 = -1
            """);
        test("find", "-1 if none is.", """
            fill 0 4: 7 8 7
            find 0 0 4 9 = -1
            find 0 {3 4 24 MAX} 4 7 = -1
            make 1 4 24
            find 1 {24 25 MAX} 4 0 = -1
            """);
        test("find", "an empty row", Sentences.forKinds(0, 7, """
            make 0 KIND 0
            find 0 {MIN -1 0 1 MAX} KIND 0 = -1
            """));
        test("find", "Reasons: 1 (c; sort not 0 .. 7);", """
            make 0 4 1
            make 11 4 1
            find {MIN -1 12 MAX} 0 4 0 ! 1
            find {0 11} 0 {MIN -1 8 MAX} 0 ! 1
            """);
        test("find", "2; 3; 6: it is no PLAIN ROW.", """
            make 1 12 5
            make 2 14 5
            make 3 8 0
            make 4 9 1
            make 5 10 2
            make 6 11 24
            find 0 0 4 0 ! 2
            find {1 2} 0 4 0 ! 3
            find {3..6} {MIN -1 0 1 MAX} {0 4 7} 0 ! 6
            """);
        test("find", "Of several reasons that counts which is told first at the call", """
            make 1 12 5
            make 2 8 1
            find {-1 12} 0 {-1 8} 0 ! 1
            find {0 1 2} {-1 0 1} {-1 8} 0 ! 1
            """);
    }

    private static void findValues() {
        test("find", "whose value is LIKE the one that is TOLD by sort, a, b", """
            fill 0 1: 1 -1
            find 0 0 1 255 = 1
            find 0 0 1 257 = 0
            find 0 0 2 255 = -1
            find 0 0 3 65535 = 1
            find 0 0 4 0 -1 = 1
            find 0 0 5 0 -1 = -1
            find 0 0 5 -1 -1 = 1
            find 0 0 6 8 = 0
            find 0 0 7 -8 = 1
            find 0 0 7 9 = -1
            find 0 0 0 1 = -1
            fill 1 0: 0 1
            find 1 0 0 3 = 1
            find 1 0 0 2 = 0
            find 1 0 0 1 0 = 0
            fill 2 7: 1 2^56
            find 2 0 6 1 = 0
            find 2 0 5 2^53+1 = 1
            find 2 0 5 2^53-1 = -1
            """);
    }

    private static void alike() {
        test("alike", "as long as each other", """
            make 0 4 0
            fill 1 4: 7
            fill 2 4: 7 7
            make 3 4 23
            make 4 4 24
            alike 0 {1 2} = 0
            alike {1 2} 0 = 0
            alike 1 2 = 0
            alike 2 1 = 0
            alike 3 4 = 0
            alike 4 3 = 0
            """);
        test("alike", "have LIKE values", """
            fill 0 4: 1 2 3
            fill 1 1: 1 2 3
            fill 2 7: 8 16 24
            fill 3 6: 8 16 25
            fill 4 5: 0 2 3
            alike 0 {0 1 2} = 1
            alike {1 2} 0 = 1
            alike {0 1 2} 3 = 0
            alike {0 1 2} 4 = 0
            make 5 4 24
            make 6 7 24
            alike 5 6 = 1
            put 6 23 7 1
            alike 5 6 = 0
            alike 6 5 = 0
            """);
        test("alike", "the same things", """
            make 0 14 5
            make 1 14 5
            things 2 8: 0 1
            things 3 9: 0 1
            things 4 9: 1 0
            things 5 9: 0 0
            alike 2 {2 3} = 1
            alike 2 {4 5} = 0
            alike {4 5} 2 = 0
            fill 6 4: 1
            fill 7 4: 1
            things 8 10: 6
            things 9 10: 7
            things 10 10: 6
            alike 8 9 = 0
            alike 8 10 = 1
            """);
        test("alike", "or NOTHING at the same places", """
            make 0 14 5
            things 1 8: 0 -
            things 2 9: 0 -
            things 3 9: - 0
            things 4 9: 0 0
            make 5 8 2
            alike 1 2 = 1
            alike 1 {3 4 5} = 0
            alike {3 4 5} 1 = 0
            make 6 9 2
            make 7 10 2
            make 8 11 2
            alike {5..8} {5..8} = 1
            make 9 4 2
            alike {5..8} 9 = 0
            alike 9 {5..8} = 0
            """);
        test("alike", "an empty row", Sentences.forKinds(0, 11, """
            make 0 KIND 0
            make 1 0 0
            make 2 4 0
            make 3 7 0
            make 4 8 0
            make 5 11 0
            alike 0 {0..5} = 1
            alike {0..5} 0 = 1
            """));
        test("alike", "Reasons: 1; 2 (of one of them); 3 (of one of them).", """
            make 1 12 5
            make 2 4 1
            make 11 4 1
            alike {MIN -1 12 MAX} {0 1 2 11} ! 1
            alike {0 1 2 11} {MIN -1 12 MAX} ! 1
            alike 0 {0 1 2} ! 2
            alike {0 1 2} 0 ! 2
            alike 1 {1 2} ! 3
            alike 2 1 ! 3
            """);
    }

    private static void nothingChanges() {
        SENTENCES.test("questions about whole columns", """
            make 0 14 5
            fill 1 4: 3 1 2
            things 2 8: 0 -
            fill 3 7: 8 -1
            keep
            sum 1
            total 1
            total 3
            find 1 0 4 1
            find 3 0 7 9
            alike 1 3
            alike 2 2
            kept
            """);
    }
}
