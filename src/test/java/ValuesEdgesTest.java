/** The boundary cases of the terms on values, a test for each sentence: SORT, TOLD, GOES INTO, LIKE, LESS. */
public final class ValuesEdgesTest {
    private static final Sentences SENTENCES = new Sentences();
    private static final String[] SORTS = {"FLAG", "BYTE", "CHAR", "SHORT", "INT", "LONG", "FLOAT", "DOUBLE"};

    public static void main(String[] args) {
        sorts();
        told();
        toldPoints();
        goesInto();
        becomes();
        like();
        less();
        SENTENCES.end("ValuesEdgesTest");
    }

    /** The lowest and the highest value of a sort, and what the v below and above them tell. */
    private static String ends(int sort, String lowest, String below, String highest, String above) {
        String told = """
            put 0 0 S LOWEST = 1
            number 0 0 S = LOWEST
            put 0 0 S HIGHEST = 1
            number 0 0 S = HIGHEST
            put 0 0 S BELOW = 1
            number 0 0 S = HIGHEST
            put 0 0 S ABOVE = 1
            number 0 0 S = LOWEST
            """.replace("BELOW", below).replace("ABOVE", above);
        return "make 0 " + sort + " 1\n"
            + (told + told.replace("put", "putBoxed")).replace("LOWEST", lowest).replace("HIGHEST", highest)
                .replace("S", "" + sort);
    }

    private static void sorts() {
        SENTENCES.test("0 FLAG (0 or 1)", ends(0, "0", "-1", "1", "2"));
        SENTENCES.test("1 BYTE (-128 .. 127)", ends(1, "-128", "-129", "127", "128"));
        SENTENCES.test("2 CHAR (0 .. 65535)", ends(2, "0", "-1", "65535", "65536"));
        SENTENCES.test("3 SHORT (-32768 .. 32767)", ends(3, "-32768", "-32769", "32767", "32768"));
        SENTENCES.test("4 INT (32 bits with sign)", ends(4, "-2^31", "-2^31-1", "2^31-1", "2^31"));
        SENTENCES.test("5 LONG (64 bits with sign)", ends(5, "-2^63", "2^63-1", "2^63-1", "-2^63"));
        SENTENCES.test("6 FLOAT, 7 DOUBLE (binary floating numbers of 32 and 64 bits)", """
            make 0 6 1
            put 0 0 6 2^24-1
            point 0 0 6 = 2097151.875
            put 0 0 6 2^25-1
            point 0 0 6 = 4194304
            make 0 7 1
            put 0 0 7 2^53-1
            point 0 0 7 = 1125899906842623.875
            put 0 0 7 2^54-1
            point 0 0 7 = 2251799813685248
            """);
    }

    private static void told() {
        SENTENCES.test("with v = a times 2^32 and b (b without sign), of 64 bits with sign", """
            make 0 5 1
            put 0 0 5 0 -1
            number 0 0 5 = 4294967295
            put 0 0 5 0 MIN
            number 0 0 5 = 2147483648
            put 0 0 5 1 -1
            number 0 0 5 = 8589934591
            put 0 0 5 -1 0
            number 0 0 5 = -4294967296
            put 0 0 5 -1 -1
            number 0 0 5 = -1
            put 0 0 5 -1 MAX
            number 0 0 5 = -2147483649
            put 0 0 5 MAX -1
            number 0 0 5 = 2^63-1
            put 0 0 5 MIN 0
            number 0 0 5 = -2^63
            find 0 0 5 MIN 0 = 0
            find 0 0 5 0 MIN = -1
            """);
        SENTENCES.test("FLAG: the lowest bit of v", """
            make 0 0 1
            put 0 0 0 0 2
            number 0 0 0 = 0
            put 0 0 0 0 3
            number 0 0 0 = 1
            put 0 0 0 1 0
            number 0 0 0 = 0
            put 0 0 0 -1 -1
            number 0 0 0 = 1
            put 0 0 0 MIN MIN
            number 0 0 0 = 0
            put 0 0 0 MIN MAX
            number 0 0 0 = 1
            """);
        SENTENCES.test("BYTE, CHAR, SHORT, INT: its lowest 8, 16, 16, 32 bits", """
            make 1 1 1
            make 2 2 1
            make 3 3 1
            make 4 4 1
            put 1 0 1 255
            number 1 0 1 = -1
            put 1 0 1 256
            number 1 0 1 = 0
            put 1 0 1 -1 127
            number 1 0 1 = 127
            put 1 0 1 MAX MIN
            number 1 0 1 = 0
            put 2 0 2 2^31+65535
            number 2 0 2 = 65535
            put 2 0 2 -1 65536
            number 2 0 2 = 0
            put 3 0 3 65535
            number 3 0 3 = -1
            put 3 0 3 -1 32767
            number 3 0 3 = 32767
            put 3 0 3 65536
            number 3 0 3 = 0
            put 4 0 4 -1 MAX
            number 4 0 4 = 2147483647
            put 4 0 4 MAX MIN
            number 4 0 4 = -2147483648
            put 4 0 4 1 0
            number 4 0 4 = 0
            """);
        SENTENCES.test("LONG: v.", """
            make 0 5 1
            put 0 0 5 2^53+1
            number 0 0 5 = 2^53+1
            put 0 0 5 -2^53-1
            number 0 0 5 = -2^53-1
            """);
    }

    private static void toldPoints() {
        SENTENCES.test("FLOAT: the FLOAT nearest to v, then divided by 8", """
            make 0 6 1
            put 0 0 6 1
            point 0 0 6 = 0.125
            put 0 0 6 -1
            point 0 0 6 = -0.125
            put 0 0 6 0
            point 0 0 6 = 0
            put 0 0 6 2^63-1
            point 0 0 6 = 0x1p60
            put 0 0 6 -2^63
            point 0 0 6 = -0x1p60
            put 0 0 6 2^26+3
            point 0 0 6 = 8388608
            put 0 0 6 2^26+5
            point 0 0 6 = 8388609
            put 0 0 6 2^60+2^36+1
            point 0 0 6 = 0x1.000002p57
            put 0 0 6 2^60+2^37+2^36-1
            point 0 0 6 = 0x1.000002p57
            """);
        SENTENCES.test("DOUBLE: likewise by DOUBLES.", """
            make 0 7 1
            put 0 0 7 1
            point 0 0 7 = 0.125
            put 0 0 7 -1
            point 0 0 7 = -0.125
            put 0 0 7 0
            point 0 0 7 = 0
            put 0 0 7 2^24+1
            point 0 0 7 = 2097152.125
            put 0 0 7 2^63-1
            point 0 0 7 = 0x1p60
            put 0 0 7 -2^63
            point 0 0 7 = -0x1p60
            put 0 0 7 2^55+3
            point 0 0 7 = 0x1p52
            put 0 0 7 2^55+5
            point 0 0 7 = 4503599627370497
            """);
        SENTENCES.test("(Nearest: of two as near the one whose last bit is 0.)", """
            make 0 6 1
            put 0 0 6 2^24+1
            point 0 0 6 = 2097152
            put 0 0 6 2^24+3
            point 0 0 6 = 2097152.5
            put 0 0 6 -2^24-1
            point 0 0 6 = -2097152
            put 0 0 6 -2^24-3
            point 0 0 6 = -2097152.5
            put 0 0 6 2^60+2^36
            point 0 0 6 = 0x1p57
            put 0 0 6 2^60+2^37+2^36
            point 0 0 6 = 0x1.000004p57
            """, """
            make 0 7 1
            put 0 0 7 2^53+1
            point 0 0 7 = 1125899906842624
            put 0 0 7 2^53+3
            point 0 0 7 = 1125899906842624.5
            put 0 0 7 -2^53-1
            point 0 0 7 = -1125899906842624
            put 0 0 7 -2^53-3
            point 0 0 7 = -1125899906842624.5
            """);
    }

    private static void goesInto() {
        for (int sort = 0; sort < 8; sort++) {
            goes("A sort GOES INTO itself (" + SORTS[sort] + ")", sort, sort);
        }
        goes("BYTE into SHORT, INT, LONG, FLOAT, DOUBLE", 1, 3, 4, 5, 6, 7);
        goes("CHAR into INT, LONG, FLOAT, DOUBLE", 2, 4, 5, 6, 7);
        goes("SHORT into INT, LONG, FLOAT, DOUBLE", 3, 4, 5, 6, 7);
        goes("INT into LONG, FLOAT, DOUBLE", 4, 5, 6, 7);
        goes("LONG into FLOAT, DOUBLE", 5, 6, 7);
        goes("FLOAT into DOUBLE", 6, 7);
        goesNot("nothing else (a FLAG into no other sort)", 0, 1, 2, 3, 4, 5, 6, 7);
        goesNot("nothing else (BYTE)", 1, 0, 2);
        goesNot("nothing else (CHAR)", 2, 0, 1, 3);
        goesNot("nothing else (SHORT)", 3, 0, 1, 2);
        goesNot("nothing else (INT)", 4, 0, 1, 2, 3);
        goesNot("nothing else (LONG)", 5, 0, 1, 2, 3, 4);
        goesNot("nothing else (FLOAT)", 6, 0, 1, 2, 3, 4, 5);
        goesNot("nothing else (DOUBLE)", 7, 0, 1, 2, 3, 4, 5, 6);
    }

    /** Every call at which a value may go into another sort; the value is the lowest bit, or an eighth. */
    private static void goes(String sentence, int from, int... sorts) {
        String[] runs = new String[sorts.length];
        for (int k = 0; k < sorts.length; k++) {
            String value = from >= 6 ? "0.125" : sorts[k] >= 6 ? "1.0" : "1";
            String zero = sorts[k] >= 6 ? "0.0" : "0";
            runs[k] = """
                make 0 TO 2
                put 0 1 FROM 1 = 1
                row 0 = TO: ZERO VALUE
                make 0 TO 2
                putBoxed 0 1 FROM 1 = 1
                row 0 = TO: ZERO VALUE
                fill 1 FROM: 0 1
                READ 1 1 TO = VALUE
                make 0 TO 2
                copy 1 0 = 2
                row 0 = TO: ZERO VALUE
                fill 2 1: 1 0
                gather 1 2 0 = 2
                row 0 = TO: VALUE ZERO
                make 0 TO 2
                scatter 1 2 0 = 2
                row 0 = TO: VALUE ZERO
                fill 1 FROM: 1
                fill 3 FROM: 0
                merge 1 3 0 = 2
                row 0 = TO: ZERO VALUE
                """.replace("READ", sorts[k] < 6 ? "number" : "point").replace("FROM", "" + from)
                .replace("TO", "" + sorts[k]).replace("ZERO", zero).replace("VALUE", value);
        }
        SENTENCES.test(sentence, runs);
    }

    private static void goesNot(String sentence, int from, int... sorts) {
        String[] runs = new String[sorts.length];
        for (int k = 0; k < sorts.length; k++) {
            runs[k] = """
                fill 0 TO: 1 0
                fill 1 FROM: 0 1
                fill 2 1: 1 0
                fill 3 FROM: 0
                lay 3 4
                keep
                put 0 1 FROM 1 ! 5
                putBoxed 0 1 FROM 1 ! 5
                READ 1 1 TO ! 5
                copy 1 0 ! 5
                gather 1 2 0 ! 5
                scatter 1 2 0 ! 5
                merge 3 4 0 ! 5
                kept
                """.replace("READ", sorts[k] < 6 ? "number" : "point").replace("FROM", "" + from)
                .replace("TO", "" + sorts[k]);
        }
        SENTENCES.test(sentence, runs);
    }

    private static void becomes() {
        SENTENCES.test("A value that goes into a sort becomes the number of that sort that is nearest to it. "
            + "(sorts 1 to 5, without loss)", ends(1, 3), ends(1, 4), ends(1, 5), ends(2, 4), ends(2, 5), ends(3, 4),
            ends(3, 5), ends(4, 5));
        SENTENCES.test("A value that goes into a sort becomes the number of that sort that is nearest to it. "
            + "(INT and LONG into FLOAT)", nearest(4, 6, "2^24+1", "0x1p24"), nearest(4, 6, "2^24+3", "0x1.000004p24"),
            nearest(4, 6, "2^31-1", "0x1p31"), nearest(4, 6, "-2^31", "-0x1p31"), nearest(5, 6, "2^60+2^36", "0x1p60"),
            nearest(5, 6, "2^60+2^36+1", "0x1.000002p60"), nearest(5, 6, "2^60+2^37+2^36-1", "0x1.000002p60"),
            nearest(5, 6, "2^63-1", "0x1p63"), nearest(5, 6, "-2^63", "-0x1p63"));
        SENTENCES.test("A value that goes into a sort becomes the number of that sort that is nearest to it. "
            + "(LONG into DOUBLE)", nearest(5, 7, "2^53+1", "0x1p53"), nearest(5, 7, "2^53+3", "9007199254740996"),
            nearest(5, 7, "2^53-1", "9007199254740991"), nearest(5, 7, "2^63-1", "0x1p63"),
            nearest(5, 7, "-2^63", "-0x1p63"));
        SENTENCES.test("A value that goes into a sort becomes the number of that sort that is nearest to it. "
            + "(into DOUBLE without loss)", nearest(1, 7, "-128", "-128"), nearest(2, 7, "65535", "65535"),
            nearest(3, 7, "-32768", "-32768"), nearest(4, 7, "2^31-1", "2147483647"),
            nearest(4, 7, "2^24+1", "16777217"), nearest(6, 7, "1", "0.125"),
            nearest(6, 7, "2^24-1", "2097151.875"), nearest(6, 7, "2^24+1", "2097152"),
            nearest(6, 7, "2^63-1", "0x1p60"));
    }

    /** The lowest and the highest value of a sort in rows of another one. */
    private static String ends(int from, int to) {
        String lowest = from == 1 ? "-128" : from == 2 ? "0" : from == 3 ? "-32768" : "-2147483648";
        String highest = from == 1 ? "127" : from == 2 ? "65535" : from == 3 ? "32767" : "2147483647";
        return """
            fill 0 FROM: LOW HIGH
            number 0 0 TO = LOW
            number 0 1 TO = HIGH
            make 1 TO 2
            put 1 0 FROM LOW
            put 1 1 FROM HIGH
            row 1 = TO: LOW HIGH
            make 1 TO 2
            copy 0 1
            row 1 = TO: LOW HIGH
            """.replace("FROM", "" + from).replace("TO", "" + to).replace("LOW", lowest).replace("HIGH", highest);
    }

    /** What a value becomes, at each call that lets it go into a row or reads it. */
    private static String nearest(int from, int to, String v, String number) {
        return """
            fill 0 FROM: V
            point 0 0 TO = NUMBER
            make 1 TO 1
            put 1 0 FROM V
            point 1 0 TO = NUMBER
            make 1 TO 1
            putBoxed 1 0 FROM V
            point 1 0 TO = NUMBER
            make 1 TO 1
            copy 0 1 = 1
            point 1 0 TO = NUMBER
            fill 2 1: 0
            make 1 TO 1
            gather 0 2 1 = 1
            point 1 0 TO = NUMBER
            make 1 TO 1
            scatter 0 2 1 = 1
            point 1 0 TO = NUMBER
            make 1 TO 1
            make 3 1 0
            merge 0 3 1 = 1
            point 1 0 TO = NUMBER
            make 1 TO 1
            merge 3 0 1 = 1
            point 1 0 TO = NUMBER
            total 1 = NUMBER
            """.replace("FROM", "" + from).replace("TO", "" + to).replace("V\n", v + "\n").replace("NUMBER", number);
    }

    private static void like() {
        SENTENCES.test("Two values are LIKE, if both are FLAGS with the same number", """
            fill 0 0: 0 1
            find 0 0 0 0 = 0
            find 0 0 0 1 = 1
            find 0 1 0 0 = -1
            fill 1 0: 0 1
            fill 2 0: 0 0
            alike 0 1 = 1
            alike 0 2 = 0
            """);
        SENTENCES.test("or if neither is a FLAG", """
            fill 0 0: 0 1
            find 0 0 {1..5} 0 = -1
            find 0 0 {1..5} 1 = -1
            find 0 0 {6 7} 0 = -1
            find 0 0 {6 7} 8 = -1
            fill 1 1: 0 1
            fill 2 2: 0 1
            fill 3 3: 0 1
            fill 4 4: 0 1
            fill 5 5: 0 1
            fill 6 6: 0 8
            fill 7 7: 0 8
            find {1..7} 0 0 0 = -1
            find {1..7} 0 0 1 = -1
            alike 0 {1..7} = 0
            alike {1..7} 0 = 0
            """);
        SENTENCES.test("both are of sorts 1 to 5 and have the same number", """
            fill 1 1: -1
            fill 2 2: -1
            fill 3 3: -1
            fill 4 4: -1
            fill 5 5: -1
            alike {1 3 4 5} {1 3 4 5} = 1
            alike 2 {1 3 4 5} = 0
            alike {1 3 4 5} 2 = 0
            find {1 3 4 5} 0 {1 3 4 5} -1 = 0
            find {1 3 4 5} 0 2 -1 = -1
            find 2 0 {1 3 4 5} -1 = -1
            find 2 0 {2 4 5} 65535 = 0
            """, """
            fill 0 5: 2^53 2^53+1 2^32 2^63-1
            find 0 0 5 2^53+1 = 1
            find 0 2 4 0 = -1
            find 0 3 5 2^63-2 = -1
            fill 1 5: 2^53+1 2^53 2^32 2^63-1
            alike 0 1 = 0
            """);
        SENTENCES.test("or one is a FLOAT or DOUBLE and the DOUBLES that they become are like numbers", """
            fill 0 5: 2^53+1 2^24+1 2^63-1
            fill 1 7: 2^56 2^27+8 -2^63
            find 0 0 7 2^56 = 0
            find 0 0 6 2^56 = 0
            find 0 0 6 2^27 = -1
            find 0 0 7 2^27+8 = 1
            find 1 0 5 2^53+1 = 0
            find 1 0 5 2^53+2 = -1
            find 1 0 4 2^24+1 = 1
            alike 0 1 = 0
            """, """
            fill 0 4: 2^24+1
            fill 1 6: 2^27
            alike 0 1 = 0
            alike 1 0 = 0
            find 0 0 6 2^27 = -1
            find 1 0 4 2^24+1 = -1
            find 1 0 4 2^24 = 0
            """, """
            fill 0 5: 2^53+1
            fill 1 6: 2^56
            fill 2 7: 2^56
            alike 0 {1 2} = 1
            alike {1 2} 0 = 1
            alike 1 2 = 1
            """, """
            fill 0 1: 1
            fill 2 2: 1
            fill 3 3: 1
            fill 4 6: 8
            fill 5 7: 8
            fill 6 7: 9
            alike {0 2 3 4} 5 = 1
            alike 5 {0 2 3 4} = 1
            alike {0 2 3 4 5} 6 = 0
            """);
        // No call makes a -0: every zero is due to be 0, in all its bits, and LIKE each other zero.
        SENTENCES.test("(0 and -0 are)", """
            fill 0 6: 0 1 -1
            fill 1 7: 0 1 -1
            find {0 1} 0 {1..7} 0 = 0
            find {0 1} 1 {1..7} 0 = -1
            point {0 1} 0 7 = 0
            total {0 1} = 0
            fill 2 5: 0
            point 2 0 {6 7} = 0
            make 3 6 1
            make 4 7 1
            copy 2 {3 4} = 1
            point {3 4} 0 7 = 0
            alike {2 3 4} {2 3 4} = 1
            """);
    }

    private static void less() {
        SENTENCES.test("One is LESS likewise: by their numbers", """
            fill 0 5: 2^53+1 2^53
            sort 0 = 2
            row 0 = 5: 9007199254740992 9007199254740993
            fill 0 5: 2^63-1 -2^63 -1 0
            sort 0 = 4
            row 0 = 5: -9223372036854775808 -1 0 9223372036854775807
            fill 0 5: 2^53+1
            fill 1 5: 2^53
            make 2 5 2
            merge 0 1 2 = 2
            row 2 = 5: 9007199254740992 9007199254740993
            """, """
            fill 0 2: 65535
            fill 1 3: -1
            make 2 4 2
            merge 0 1 2 = 2
            row 2 = 4: -1 65535
            merge 1 0 2 = 2
            row 2 = 4: -1 65535
            fill 0 2: 65535 0 32768 32767
            sort 0 = 3
            row 0 = 2: 0 32767 32768 65535
            """);
        SENTENCES.test("or by the DOUBLES that they become", """
            fill 0 5: 2^53+1
            fill 1 7: 2^56 0
            make 2 7 3
            merge 0 1 2 = 3
            row 2 = 7: 9.007199254740992E15 9.007199254740992E15 0.0
            fill 1 7: 2^56-8 0
            merge 0 1 2 = 3
            row 2 = 7: 9.007199254740991E15 0.0 9.007199254740992E15
            """, """
            fill 0 4: 2^24+1 0
            fill 1 6: 2^27
            make 2 7 3
            merge 0 1 2 = 3
            row 2 = 7: 1.6777216E7 1.6777217E7 0.0
            fill 0 6: 2^27+16 0
            fill 1 4: 2^24+1
            merge 0 1 2 = 3
            row 2 = 7: 1.6777217E7 1.6777218E7 0.0
            fill 0 6: 2^27+32 0
            fill 1 4: 2^24+3
            merge 0 1 2 = 3
            row 2 = 7: 1.6777219E7 1.677722E7 0.0
            fill 0 4: 1 3
            fill 1 6: 16
            merge 0 1 2 = 3
            row 2 = 7: 1.0 2.0 3.0
            merge 1 0 2 = 3
            row 2 = 7: 1.0 2.0 3.0
            fill 0 4: 2 0
            fill 1 7: 15
            merge 0 1 2 = 3
            row 2 = 7: 1.875 2.0 0.0
            fill 1 7: 17
            merge 0 1 2 = 3
            row 2 = 7: 2.0 0.0 2.125
            """, """
            fill 0 7: 1 -1 0
            sort 0 = 3
            row 0 = 7: -0.125 0.0 0.125
            fill 0 6: 2^63-1 -2^63 1 -1
            sort 0 = 3
            row 0 = 6: -1.15292150460684698E18 -0.125 0.125 1.15292150460684698E18
            """);
        SENTENCES.test("of FLAGS 0 is less than 1", """
            fill 0 0: 1 0
            sort 0 = 2
            row 0 = 0: 0 1
            sort 0 = 0
            fill 1 0: 1 0
            fill 2 0: 0 1
            make 3 0 4
            merge 1 2 3 = 4
            row 3 = 0: 0 1 0 1
            merge 2 1 3 = 4
            row 3 = 0: 0 1 1 0
            """);
    }
}
