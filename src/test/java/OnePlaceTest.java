/** Promises 8 to 14: put, putBoxed, putThing, number, point, what, take. */
public final class OnePlaceTest {
    private static final Check CHECK = new Check();
    /** GOES INTO, written out from the document: a text for each sort, a letter for each that it meets. */
    private static final String[] GOES = {
        "y.......", ".y.yyyyy", "..y.yyyy", "...yyyyy", "....yyyy", ".....yyy", "......yy", ".......y"};

    public static void main(String[] args) {
        for (boolean boxed : new boolean[] {false, true}) {
            putGoes(boxed);
            putTold(boxed);
            putRounds(boxed);
            putRefused(boxed);
        }
        putThingFits();
        putThingSame();
        putThingRefused();
        numberGoes();
        numberRefused();
        pointGoes();
        pointRefused();
        what();
        take();
        takeRefused();
        CHECK.end("OnePlaceTest");
    }

    private static int put(boolean boxed, ColumnHouse house, int c, int i, int sort, long v) {
        int a = (int) (v >> 32);
        int b = (int) v;
        return boxed ? house.putBoxed(c, i, sort, a, b) : house.put(c, i, sort, a, b);
    }

    private static void putGoes(boolean boxed) {
        ColumnHouse house = new ColumnHouse();
        for (int kind = 0; kind < 8; kind++) {
            house = new ColumnHouse();
            for (int sort = 0; sort < 8; sort++) {
                String call = "put (boxed " + boxed + ") of sort " + sort + " into " + kind;
                house.make(0, kind, 3);
                String before = Check.row(house, 0);
                int got = put(boxed, house, 0, 2, sort, 65);
                if (GOES[sort].charAt(kind) == 'y') {
                    CHECK.done(house, call, got, 1);
                    String value = sort == 0 ? "1" : sort >= 6 ? "8.125" : kind >= 6 ? "65.0" : "65";
                    String zero = kind >= 6 ? "0.0" : "0";
                    CHECK.due("row after " + call, Check.row(house, 0), kind + ": " + zero + " " + zero + " " + value);
                } else {
                    CHECK.refused(house, call, got, 5);
                    CHECK.due("row after " + call, Check.row(house, 0), before);
                }
            }
        }
    }

    private static void putTold(boolean boxed) {
        long[] told = {0, 1, 2, -1, 127, 128, 255, 256, 32767, 32768, 65535, 65536, 0x7FFFFFFFL, 0x80000000L,
            0xFFFFFFFFL, 0x100000000L, 0x1_8000_80C1L, Long.MAX_VALUE, Long.MIN_VALUE, 0x12345678_9ABCDEF0L};
        for (long v : told) {
            ColumnHouse house = new ColumnHouse();
            for (int sort = 0; sort < 8; sort++) {
                house.make(sort, sort, 1);
            }
            long[] want = {v & 1, (byte) v, (char) v, (short) v, (int) v, v};
            for (int sort = 0; sort < 6; sort++) {
                put(boxed, house, sort, 0, sort, v);
                CHECK.done(house, "TOLD by sort " + sort + " and " + v, house.number(sort, 0, sort), want[sort]);
            }
            put(boxed, house, 6, 0, 6, v);
            CHECK.done(house, "TOLD by FLOAT and " + v, house.point(6, 0, 6), (double) ((float) v / 8f));
            put(boxed, house, 7, 0, 7, v);
            CHECK.done(house, "TOLD by DOUBLE and " + v, house.point(7, 0, 7), (double) v / 8.0);
            put(boxed, house, 7, 0, 6, v);
            CHECK.done(house, "TOLD by FLOAT into DOUBLES " + v, house.point(7, 0, 7), (double) ((float) v / 8f));
        }
    }

    /** Nearest; of two as near the one whose last bit is 0; in one step, not by way of a DOUBLE. */
    private static void putRounds(boolean boxed) {
        ColumnHouse house = new ColumnHouse();
        house.make(6, 6, 1);
        house.make(7, 7, 1);
        put(boxed, house, 6, 0, 4, (1 << 24) + 1);
        CHECK.done(house, "INT as near to two FLOATS", house.point(6, 0, 6), 16777216.0);
        put(boxed, house, 6, 0, 4, (1 << 24) + 3);
        CHECK.done(house, "INT as near to two FLOATS, up", house.point(6, 0, 6), 16777220.0);
        long twice = (1L << 60) + (1L << 36) + 1;
        put(boxed, house, 6, 0, 5, twice);
        CHECK.done(house, "LONG just above the middle of two FLOATS", house.point(6, 0, 6),
            (double) (1L << 60) + (double) (1L << 37));
        put(boxed, house, 6, 0, 6, twice);
        CHECK.done(house, "FLOAT told just above the middle", house.point(6, 0, 6),
            ((double) (1L << 60) + (double) (1L << 37)) / 8);
        put(boxed, house, 7, 0, 5, (1L << 53) + 1);
        CHECK.done(house, "LONG as near to two DOUBLES", house.point(7, 0, 7), 9007199254740992.0);
        put(boxed, house, 7, 0, 7, (1L << 53) + 3);
        CHECK.done(house, "DOUBLE told as near to two", house.point(7, 0, 7), 9007199254740996.0 / 8);
        put(boxed, house, 7, 0, 4, (1 << 24) + 1);
        CHECK.done(house, "INT into DOUBLES", house.point(7, 0, 7), 16777217.0);
        put(boxed, house, 6, 0, 5, Long.MAX_VALUE);
        CHECK.done(house, "greatest LONG into FLOATS", house.point(6, 0, 6), 9223372036854775808.0);
    }

    private static void putRefused(boolean boxed) {
        ColumnHouse house = new ColumnHouse();
        house.make(0, 4, 2);
        house.make(1, 8, 2);
        house.make(2, 12, 5);
        house.make(4, 4, 0);
        String before = Check.house(house);
        for (int c : new int[] {-1, 12, Integer.MIN_VALUE, Integer.MAX_VALUE}) {
            CHECK.refused(house, "put: column", put(boxed, house, c, 9, 0, 1), 1);
        }
        for (int sort : new int[] {-1, 8, Integer.MIN_VALUE, Integer.MAX_VALUE}) {
            CHECK.refused(house, "put: sort", put(boxed, house, 0, 0, sort, 1), 1);
            CHECK.refused(house, "put: sort ahead of NOTHING", put(boxed, house, 3, 0, sort, 1), 1);
            CHECK.refused(house, "put: sort ahead of no row", put(boxed, house, 2, 0, sort, 1), 1);
            CHECK.refused(house, "put: sort ahead of place", put(boxed, house, 0, 2, sort, 1), 1);
        }
        CHECK.refused(house, "put: NOTHING", put(boxed, house, 3, 9, 0, 1), 2);
        CHECK.refused(house, "put: no row", put(boxed, house, 2, 9, 0, 1), 3);
        for (int i : new int[] {-1, 2, 24, Integer.MIN_VALUE, Integer.MAX_VALUE}) {
            CHECK.refused(house, "put: place", put(boxed, house, 0, i, 4, 1), 4);
            CHECK.refused(house, "put: place ahead of sort", put(boxed, house, 0, i, 7, 1), 4);
            CHECK.refused(house, "put: place ahead of things", put(boxed, house, 1, i, 4, 1), 4);
        }
        CHECK.refused(house, "put: place of an empty row", put(boxed, house, 4, 0, 4, 1), 4);
        for (int sort = 0; sort < 8; sort++) {
            CHECK.refused(house, "put: row of things", put(boxed, house, 1, 0, sort, 1), 5);
        }
        CHECK.due("the house after puts that were refused", Check.house(house), before);
    }

    private static void putThingFits() {
        for (int row = 8; row <= 11; row++) {
            ColumnHouse house = new ColumnHouse();
            for (int kind = 0; kind <= 14; kind++) {
                house.make(0, row, 2);
                house.make(1, kind, 3);
                boolean fits = row == 8 ? kind >= 12 : row == 9 ? kind == 14 : row == 10 ? kind == 4
                    : kind == 8 || kind == 9;
                String call = "putThing of " + kind + " into " + row;
                int got = house.putThing(0, 1, 1);
                if (fits) {
                    CHECK.done(house, call, got, 1);
                } else {
                    CHECK.refused(house, call, got, 5);
                }
                CHECK.done(house, "what after " + call, house.what(0, 1), fits ? kind : -1);
                CHECK.done(house, "what beside " + call, house.what(0, 0), -1);
                CHECK.done(house, "putThing of NOTHING", house.putThing(0, 1, 5), 0);
                CHECK.done(house, "what after NOTHING", house.what(0, 1), -1);
            }
        }
    }

    private static void putThingSame() {
        ColumnHouse house = new ColumnHouse();
        house.make(0, 10, 2);
        house.make(1, 4, 1);
        house.putThing(0, 0, 1);
        house.putThing(0, 1, 1);
        house.put(1, 0, 4, 0, 77);
        house.take(0, 1, 2);
        CHECK.done(house, "the same thing is in the row", house.number(2, 0, 4), 77);
        house.make(1, 4, 2);
        house.take(0, 0, 3);
        CHECK.done(house, "a new thing in the column leaves the row's", house.places(3), 1);
    }

    private static void putThingRefused() {
        ColumnHouse house = new ColumnHouse();
        house.make(0, 8, 2);
        house.make(1, 4, 2);
        house.make(2, 12, 5);
        house.putThing(0, 0, 2);
        String before = Check.house(house);
        for (int wrong : new int[] {-1, 12, Integer.MIN_VALUE, Integer.MAX_VALUE}) {
            CHECK.refused(house, "putThing: column c", house.putThing(wrong, 9, 2), 1);
            CHECK.refused(house, "putThing: column d", house.putThing(0, 0, wrong), 1);
            CHECK.refused(house, "putThing: column d ahead of NOTHING", house.putThing(5, 0, wrong), 1);
            CHECK.refused(house, "putThing: column d ahead of no row", house.putThing(2, 0, wrong), 1);
        }
        CHECK.refused(house, "putThing: NOTHING", house.putThing(5, 9, 2), 2);
        CHECK.refused(house, "putThing: no row", house.putThing(2, 9, 1), 3);
        for (int i : new int[] {-1, 2, Integer.MIN_VALUE, Integer.MAX_VALUE}) {
            CHECK.refused(house, "putThing: place", house.putThing(0, i, 2), 4);
            CHECK.refused(house, "putThing: place ahead of what doesn't fit", house.putThing(0, i, 1), 4);
            CHECK.refused(house, "putThing: place of a PLAIN ROW", house.putThing(1, i, 2), 4);
        }
        CHECK.refused(house, "putThing: thing into a PLAIN ROW", house.putThing(1, 0, 2), 5);
        CHECK.refused(house, "putThing: NOTHING into a PLAIN ROW", house.putThing(1, 0, 5), 5);
        CHECK.refused(house, "putThing: row into itself", house.putThing(0, 0, 0), 5);
        CHECK.due("the house after putThings that were refused", Check.house(house), before);
    }

    private static void numberGoes() {
        ColumnHouse house = new ColumnHouse();
        long[] told = {3, 0x80, 0xFFFF, 0x8000, 0x80000000L, Long.MIN_VALUE, 40, 40};
        long[] want = {1, -128, 65535, -32768, Integer.MIN_VALUE, Long.MIN_VALUE, 0, 0};
        for (int kind = 0; kind < 8; kind++) {
            Check.fill(house, 0, kind, 0, told[kind]);
            for (int sort = 0; sort < 6; sort++) {
                String call = "number of " + kind + " as " + sort;
                if (GOES[kind].charAt(sort) == 'y') {
                    CHECK.done(house, call, house.number(0, 1, sort), want[kind]);
                } else {
                    CHECK.refused(house, call, house.number(0, 1, sort), 5);
                }
            }
        }
    }

    private static void numberRefused() {
        ColumnHouse house = new ColumnHouse();
        Check.fill(house, 0, 4, 5, 6);
        house.make(1, 8, 2);
        house.make(2, 12, 5);
        for (int wrong : new int[] {-1, 12, Integer.MIN_VALUE, Integer.MAX_VALUE}) {
            CHECK.refused(house, "number: column", house.number(wrong, 9, 0), 1);
        }
        for (int sort : new int[] {-1, 6, 7, 8, Integer.MIN_VALUE, Integer.MAX_VALUE}) {
            CHECK.refused(house, "number: sort", house.number(0, 0, sort), 1);
            CHECK.refused(house, "number: sort ahead of NOTHING", house.number(5, 0, sort), 1);
            CHECK.refused(house, "number: sort ahead of no row", house.number(2, 0, sort), 1);
            CHECK.refused(house, "number: sort ahead of place", house.number(0, 9, sort), 1);
        }
        CHECK.refused(house, "number: NOTHING", house.number(5, 9, 0), 2);
        CHECK.refused(house, "number: no row", house.number(2, 9, 0), 3);
        for (int i : new int[] {-1, 2, Integer.MIN_VALUE, Integer.MAX_VALUE}) {
            CHECK.refused(house, "number: place", house.number(0, i, 4), 4);
            CHECK.refused(house, "number: place ahead of sort", house.number(0, i, 0), 4);
            CHECK.refused(house, "number: place of things", house.number(1, i, 4), 4);
        }
        for (int sort = 0; sort < 6; sort++) {
            CHECK.refused(house, "number: row of things", house.number(1, 0, sort), 5);
        }
    }

    private static void pointGoes() {
        ColumnHouse house = new ColumnHouse();
        long odd = (1L << 60) + (1L << 36) + 1;
        long[] told = {1, 0x80, 0xFFFF, 0x8000, (1 << 24) + 1, odd, 20, (1L << 53) - 1};
        double[] floats = {0, -128, 65535, -32768, 16777216.0, (float) odd, 2.5, 0};
        double[] doubles = {0, -128, 65535, -32768, 16777217.0, (double) odd, 2.5, 9007199254740991.0 / 8};
        for (int kind = 0; kind < 8; kind++) {
            Check.fill(house, 0, kind, 0, told[kind]);
            for (int sort = 6; sort < 8; sort++) {
                String call = "point of " + kind + " as " + sort;
                if (GOES[kind].charAt(sort) == 'y') {
                    CHECK.done(house, call, house.point(0, 1, sort), sort == 6 ? floats[kind] : doubles[kind]);
                } else {
                    CHECK.refused(house, call, house.point(0, 1, sort), 5);
                }
            }
        }
    }

    private static void pointRefused() {
        ColumnHouse house = new ColumnHouse();
        Check.fill(house, 0, 7, 5, 6);
        house.make(1, 8, 2);
        house.make(2, 12, 5);
        for (int wrong : new int[] {-1, 12, Integer.MIN_VALUE, Integer.MAX_VALUE}) {
            CHECK.refused(house, "point: column", house.point(wrong, 9, 6), 1);
        }
        for (int sort : new int[] {-1, 0, 5, 8, Integer.MIN_VALUE, Integer.MAX_VALUE}) {
            CHECK.refused(house, "point: sort", house.point(0, 0, sort), 1);
            CHECK.refused(house, "point: sort ahead of NOTHING", house.point(5, 0, sort), 1);
            CHECK.refused(house, "point: sort ahead of no row", house.point(2, 0, sort), 1);
            CHECK.refused(house, "point: sort ahead of place", house.point(0, 9, sort), 1);
        }
        CHECK.refused(house, "point: NOTHING", house.point(5, 9, 6), 2);
        CHECK.refused(house, "point: no row", house.point(2, 9, 6), 3);
        for (int i : new int[] {-1, 2, Integer.MIN_VALUE, Integer.MAX_VALUE}) {
            CHECK.refused(house, "point: place", house.point(0, i, 7), 4);
            CHECK.refused(house, "point: place ahead of sort", house.point(0, i, 6), 4);
            CHECK.refused(house, "point: place of things", house.point(1, i, 7), 4);
        }
        CHECK.refused(house, "point: row of things as FLOAT", house.point(1, 0, 6), 5);
        CHECK.refused(house, "point: row of things as DOUBLE", house.point(1, 0, 7), 5);
    }

    private static void what() {
        ColumnHouse house = new ColumnHouse();
        for (int kind = 0; kind < 8; kind++) {
            house.make(0, kind, 3);
            CHECK.done(house, "what of a value", house.what(0, 2), kind);
        }
        for (int kind = 12; kind < 15; kind++) {
            house.make(1, kind, 3);
            Check.fillThings(house, 0, 8, 5, 1);
            CHECK.done(house, "what of NOTHING", house.what(0, 0), -1);
            CHECK.done(house, "what of a card", house.what(0, 1), kind);
        }
        CHECK.refused(house, "what: column", house.what(-1, 9), 1);
        CHECK.refused(house, "what: column", house.what(12, 9), 1);
        CHECK.refused(house, "what: NOTHING", house.what(5, 9), 2);
        CHECK.refused(house, "what: no row", house.what(1, 9), 3);
        for (int i : new int[] {-1, 2, Integer.MIN_VALUE, Integer.MAX_VALUE}) {
            CHECK.refused(house, "what: place", house.what(0, i), 4);
        }
    }

    private static void take() {
        ColumnHouse house = new ColumnHouse();
        house.make(1, 13, 3);
        Check.fillThings(house, 0, 8, 5, 1);
        house.make(4, 7, 1);
        CHECK.done(house, "take of a card", house.take(0, 1, 4), 1);
        CHECK.done(house, "kind of what was taken", house.kind(4), 13);
        CHECK.done(house, "the row keeps it", house.what(0, 1), 13);
        CHECK.done(house, "take of NOTHING", house.take(0, 0, 4), 0);
        CHECK.done(house, "kind of NOTHING taken", house.kind(4), -1);
        Check.fill(house, 2, 4, 8, 9);
        Check.fillThings(house, 3, 10, 2);
        CHECK.done(house, "take into the same column", house.take(3, 0, 3), 1);
        house.put(3, 0, 4, 0, 1);
        CHECK.due("what was taken is the same one", Check.row(house, 2), "4: 1 9");
    }

    private static void takeRefused() {
        ColumnHouse house = new ColumnHouse();
        house.make(1, 13, 3);
        Check.fillThings(house, 0, 8, 5, 1);
        Check.fill(house, 2, 4, 8, 9);
        String before = Check.house(house);
        for (int wrong : new int[] {-1, 12, Integer.MIN_VALUE, Integer.MAX_VALUE}) {
            CHECK.refused(house, "take: column c", house.take(wrong, 9, 2), 1);
            CHECK.refused(house, "take: column d", house.take(0, 0, wrong), 1);
            CHECK.refused(house, "take: column d ahead of NOTHING", house.take(5, 0, wrong), 1);
            CHECK.refused(house, "take: column d ahead of no row", house.take(1, 0, wrong), 1);
            CHECK.refused(house, "take: column d ahead of PLAIN ROW", house.take(2, 0, wrong), 1);
        }
        CHECK.refused(house, "take: NOTHING", house.take(5, 9, 2), 2);
        CHECK.refused(house, "take: no row", house.take(1, 9, 2), 3);
        for (int i : new int[] {-1, 2, Integer.MIN_VALUE, Integer.MAX_VALUE}) {
            CHECK.refused(house, "take: place", house.take(0, i, 2), 4);
            CHECK.refused(house, "take: PLAIN ROW ahead of place", house.take(2, i, 2), 6);
        }
        CHECK.refused(house, "take: PLAIN ROW", house.take(2, 0, 2), 6);
        CHECK.due("the house after takes that were refused", Check.house(house), before);
    }
}
