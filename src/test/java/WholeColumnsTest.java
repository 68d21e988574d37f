/** Promises 15 to 20: copy, gather, scatter, merge, sort, turn. */
public final class WholeColumnsTest {
    private static final Check CHECK = new Check();
    private static final int[] NO_COLUMNS = {-1, 12, Integer.MIN_VALUE, Integer.MAX_VALUE};
    private static final String[] GOES = {
        "y.......", ".y.yyyyy", "..y.yyyy", "...yyyyy", "....yyyy", ".....yyy", "......yy", ".......y"};

    public static void main(String[] args) {
        copyGoes();
        copyThings();
        copyRefused();
        gather();
        gatherThings();
        gatherSameRow();
        gatherRefused();
        scatter();
        scatterSameRow();
        scatterRefused();
        merge();
        mergeSorts();
        mergeSameRow();
        mergeRefused();
        sortValues();
        sortThings();
        sortRefused();
        turn();
        turnRefused();
        CHECK.end("WholeColumnsTest");
    }

    private static void row(ColumnHouse house, int c, String want) {
        CHECK.due("row in column " + c, Check.row(house, c), want);
    }

    private static void copyGoes() {
        ColumnHouse house = new ColumnHouse();
        for (int from = 0; from < 12; from++) {
            house = new ColumnHouse();
            for (int to = 0; to < 12; to++) {
                house.make(0, from, 2);
                house.make(1, to, 2);
                boolean goes = from < 8 && to < 8 ? GOES[from].charAt(to) == 'y' : from >= 8 && to >= 8;
                String call = "copy of " + from + " to " + to;
                if (goes) {
                    CHECK.done(house, call, house.copy(0, 1), 2);
                } else {
                    CHECK.refused(house, call, house.copy(0, 1), 5);
                }
                house.make(0, from, 0);
                house.make(1, to, 0);
                CHECK.done(house, call + ", no places", house.copy(0, 1), 0);
            }
        }
        Check.fill(house, 0, 5, (1L << 60) + (1L << 36) + 1, -3, 1L << 62);
        house.make(1, 6, 3);
        CHECK.done(house, "copy of LONGS to FLOATS", house.copy(0, 1), 3);
        row(house, 1, "6: 1.15292164204580045E18 -3.0 4.6116860184273879E18");
        row(house, 0, "5: 1152921573326323713 -3 4611686018427387904");
        Check.fill(house, 2, 2, 65535, 32768, 0);
        Check.fill(house, 3, 4, 9, 9, 9);
        CHECK.done(house, "copy of CHARS to INTS", house.copy(2, 3), 3);
        row(house, 3, "4: 65535 32768 0");
        CHECK.done(house, "copy of a row to itself", house.copy(3, 3), 3);
        row(house, 3, "4: 65535 32768 0");
    }

    private static void copyThings() {
        ColumnHouse house = new ColumnHouse();
        house.make(0, 12, 1);
        house.make(1, 13, 2);
        house.make(2, 14, 3);
        Check.fillThings(house, 3, 8, 2, 10, 2);
        Check.fillThings(house, 4, 9, 10, 2, 10);
        CHECK.done(house, "copy of badges among CARDS to BADGES", house.copy(3, 4), 3);
        row(house, 4, "9: 14#3 - 14#3");
        CHECK.done(house, "the copy has the same things", house.alike(3, 4), 1);
        Check.fillThings(house, 3, 8, 2, 10, 1);
        Check.fillThings(house, 4, 9, 10, 2, 10);
        CHECK.refused(house, "copy with a pass to BADGES", house.copy(3, 4), 5);
        row(house, 4, "9: - 14#3 -");
        CHECK.done(house, "copy of BADGES to CARDS", house.copy(4, 3), 3);
        row(house, 3, "8: - 14#3 -");
        Check.fillThings(house, 5, 11, 3, 10, 4);
        house.make(6, 10, 3);
        CHECK.refused(house, "copy of DECKS to SHEETS", house.copy(5, 6), 5);
        CHECK.done(house, "copy of NOTHINGS to DECKS", house.copy(6, 5), 3);
        row(house, 5, "11: - - -");
    }

    private static void copyRefused() {
        ColumnHouse house = new ColumnHouse();
        Check.fill(house, 0, 4, 1, 2);
        Check.fill(house, 1, 1, 3, 4);
        Check.fill(house, 2, 4, 1, 2, 3);
        house.make(3, 12, 5);
        house.make(5, 8, 3);
        String before = Check.house(house);
        for (int wrong : NO_COLUMNS) {
            CHECK.refused(house, "copy: column c", house.copy(wrong, 4), 1);
            CHECK.refused(house, "copy: column d", house.copy(4, wrong), 1);
            CHECK.refused(house, "copy: column d ahead of no row", house.copy(3, wrong), 1);
        }
        CHECK.refused(house, "copy: NOTHING in c", house.copy(4, 0), 2);
        CHECK.refused(house, "copy: NOTHING in d", house.copy(0, 4), 2);
        CHECK.refused(house, "copy: NOTHING in d ahead of no row in c", house.copy(3, 4), 2);
        CHECK.refused(house, "copy: no row in c", house.copy(3, 0), 3);
        CHECK.refused(house, "copy: no row in d", house.copy(0, 3), 3);
        CHECK.refused(house, "copy: lengths", house.copy(0, 2), 4);
        CHECK.refused(house, "copy: lengths", house.copy(2, 0), 4);
        CHECK.refused(house, "copy: lengths ahead of sorts", house.copy(0, 5), 4);
        CHECK.refused(house, "copy: sorts", house.copy(0, 1), 5);
        CHECK.refused(house, "copy: values to things", house.copy(2, 5), 5);
        CHECK.refused(house, "copy: NOTHING to values", house.copy(5, 2), 5);
        CHECK.due("the house after copies that were refused", Check.house(house), before);
    }

    private static void gather() {
        ColumnHouse house = new ColumnHouse();
        Check.fill(house, 0, 4, 10, -20, 30);
        for (int kind = 1; kind <= 4; kind++) {
            Check.fill(house, 1, kind, 2, 2, 0, 1, 2);
            house.make(2, 7, 5);
            CHECK.done(house, "gather by " + kind, house.gather(0, 1, 2), 5);
            row(house, 2, "7: 30.0 30.0 10.0 -20.0 30.0");
        }
        house.make(3, 2, 0);
        house.make(4, 0, 0);
        CHECK.done(house, "gather of no places", house.gather(0, 3, 4), 0);
    }

    private static void gatherThings() {
        ColumnHouse house = new ColumnHouse();
        house.make(0, 12, 1);
        house.make(1, 14, 2);
        Check.fillThings(house, 2, 8, 0, 1, 11);
        Check.fill(house, 3, 4, 1, 2, 1);
        Check.fillThings(house, 4, 9, 11, 1, 11);
        CHECK.done(house, "gather of badges", house.gather(2, 3, 4), 3);
        row(house, 4, "9: 14#2 - 14#2");
        Check.fill(house, 3, 4, 2, 1, 0);
        CHECK.refused(house, "gather of a card to BADGES", house.gather(2, 3, 4), 5);
        row(house, 4, "9: 14#2 - 14#2");
    }

    private static void gatherSameRow() {
        ColumnHouse house = new ColumnHouse();
        Check.fill(house, 0, 4, 2, 0, 1, 3);
        house.lay(0, 1);
        CHECK.done(house, "gather of a row by itself", house.gather(0, 1, 0), 4);
        row(house, 1, "4: 1 2 0 3");
        Check.fill(house, 2, 4, 10, 11, 12, 13);
        Check.fill(house, 3, 1, 3, 2, 1, 0);
        CHECK.done(house, "gather into where it comes from", house.gather(2, 3, 2), 4);
        row(house, 2, "4: 13 12 11 10");
        Check.fill(house, 4, 4, 3, 0, 0, 0);
        CHECK.done(house, "gather into the places", house.gather(2, 4, 4), 4);
        row(house, 4, "4: 10 13 13 13");
    }

    private static void gatherRefused() {
        ColumnHouse house = new ColumnHouse();
        Check.fill(house, 0, 4, 1, 2, 0);
        Check.fill(house, 1, 4, 0, 1);
        house.make(2, 8, 3);
        house.make(3, 12, 5);
        for (int kind : new int[] {0, 5, 6, 7, 8, 9, 10, 11}) {
            house.make(5, kind, 3);
            CHECK.refused(house, "gather: x of kind " + kind, house.gather(0, 5, 0), 6);
            CHECK.refused(house, "gather: x of kind " + kind + " ahead of lengths", house.gather(0, 5, 1), 6);
            house.make(5, kind, 0);
            CHECK.refused(house, "gather: x of kind " + kind + ", no places", house.gather(0, 5, 5), 6);
        }
        for (int wrong : NO_COLUMNS) {
            CHECK.refused(house, "gather: column c", house.gather(wrong, 4, 3), 1);
            CHECK.refused(house, "gather: column x", house.gather(4, wrong, 3), 1);
            CHECK.refused(house, "gather: column d", house.gather(4, 3, wrong), 1);
        }
        CHECK.refused(house, "gather: NOTHING in c", house.gather(4, 0, 3), 2);
        CHECK.refused(house, "gather: NOTHING in x", house.gather(3, 4, 0), 2);
        CHECK.refused(house, "gather: NOTHING in d", house.gather(3, 0, 4), 2);
        CHECK.refused(house, "gather: no row in c", house.gather(3, 2, 0), 3);
        CHECK.refused(house, "gather: no row in x", house.gather(0, 3, 0), 3);
        CHECK.refused(house, "gather: no row in d", house.gather(0, 2, 3), 3);
        CHECK.refused(house, "gather: x longer than d", house.gather(0, 0, 1), 4);
        CHECK.refused(house, "gather: d longer than x", house.gather(0, 1, 2), 4);
        CHECK.refused(house, "gather: values to things", house.gather(0, 0, 2), 5);
        CHECK.refused(house, "gather: things to values", house.gather(2, 0, 0), 5);
        placesAmiss(true);
    }

    /** Which place counts, and what of it, at gather (c is column 6) and scatter (d is column 6). */
    private static void placesAmiss(boolean gather) {
        ColumnHouse house = new ColumnHouse();
        house.make(7, 12, 1);
        house.make(8, 14, 2);
        int[][] xs = {{0, -1}, {0, 2}, {0, Integer.MIN_VALUE}, {0, Integer.MAX_VALUE}, {1, 5}, {5, 1}, {0, 1}};
        // A card is amiss in BADGES, a badge is not: place 0 has the badge, place 1 the card.
        int[] gathered = {4, 4, 4, 4, 5, 4, 5};
        int[] scattered = {4, 4, 4, 4, 4, 4, 5};
        for (int k = 0; k < xs.length; k++) {
            Check.fill(house, 5, 4, xs[k][0], xs[k][1]);
            Check.fillThings(house, 6, gather ? 8 : 9, 8, gather ? 7 : 8);
            Check.fillThings(house, 9, gather ? 9 : 8, 8, gather ? 8 : 7);
            String before = Check.row(house, 6) + Check.row(house, 9);
            String call = (gather ? "gather" : "scatter") + " by " + xs[k][0] + ", " + xs[k][1];
            int got = gather ? house.gather(6, 5, 9) : house.scatter(9, 5, 6);
            CHECK.refused(house, call, got, gather ? gathered[k] : scattered[k]);
            CHECK.due("rows after " + call, Check.row(house, 6) + Check.row(house, 9), before);
        }
    }

    private static void scatter() {
        ColumnHouse house = new ColumnHouse();
        Check.fill(house, 0, 3, 10, -20, 30, 40);
        for (int kind = 1; kind <= 4; kind++) {
            Check.fill(house, 1, kind, 4, 1, 4, 0);
            Check.fill(house, 2, 5, 1, 2, 3, 4, 5);
            CHECK.done(house, "scatter by " + kind, house.scatter(0, 1, 2), 4);
            row(house, 2, "5: 40 -20 3 4 30");
        }
        house.make(3, 1, 0);
        house.make(4, 8, 0);
        CHECK.done(house, "scatter of no places", house.scatter(4, 3, 2), 0);
        row(house, 2, "5: 40 -20 3 4 30");
        house.make(5, 14, 6);
        Check.fillThings(house, 6, 8, 5, 11);
        Check.fill(house, 7, 2, 2, 0);
        Check.fillThings(house, 8, 9, 5, 5, 11);
        CHECK.done(house, "scatter of badges", house.scatter(6, 7, 8), 2);
        row(house, 8, "9: - 14#6 14#6");
    }

    private static void scatterSameRow() {
        ColumnHouse house = new ColumnHouse();
        Check.fill(house, 0, 4, 1, 2, 3, 0);
        CHECK.done(house, "scatter of a row by itself", house.scatter(0, 0, 0), 4);
        row(house, 0, "4: 0 1 2 3");
        Check.fill(house, 1, 4, 10, 11, 12, 13);
        Check.fill(house, 2, 1, 1, 2, 3, 0);
        house.lay(1, 3);
        CHECK.done(house, "scatter into where it comes from", house.scatter(1, 2, 3), 4);
        row(house, 1, "4: 13 10 11 12");
        Check.fill(house, 4, 4, 1, 2, 3, 0);
        CHECK.done(house, "scatter into the places", house.scatter(1, 4, 4), 4);
        row(house, 4, "4: 12 13 10 11");
    }

    private static void scatterRefused() {
        ColumnHouse house = new ColumnHouse();
        Check.fill(house, 0, 4, 1, 2, 0);
        Check.fill(house, 1, 4, 0, 1);
        house.make(2, 8, 3);
        house.make(3, 12, 5);
        for (int kind : new int[] {0, 5, 6, 7, 8, 9, 10, 11}) {
            house.make(5, kind, 3);
            CHECK.refused(house, "scatter: x of kind " + kind, house.scatter(0, 5, 0), 6);
            CHECK.refused(house, "scatter: x of kind " + kind + " ahead of lengths", house.scatter(1, 5, 0), 6);
            house.make(5, kind, 0);
            CHECK.refused(house, "scatter: x of kind " + kind + ", no places", house.scatter(5, 5, 0), 6);
        }
        for (int wrong : NO_COLUMNS) {
            CHECK.refused(house, "scatter: column c", house.scatter(wrong, 4, 3), 1);
            CHECK.refused(house, "scatter: column x", house.scatter(4, wrong, 3), 1);
            CHECK.refused(house, "scatter: column d", house.scatter(4, 3, wrong), 1);
        }
        CHECK.refused(house, "scatter: NOTHING in c", house.scatter(4, 0, 3), 2);
        CHECK.refused(house, "scatter: NOTHING in x", house.scatter(3, 4, 0), 2);
        CHECK.refused(house, "scatter: NOTHING in d", house.scatter(3, 0, 4), 2);
        CHECK.refused(house, "scatter: no row in c", house.scatter(3, 2, 0), 3);
        CHECK.refused(house, "scatter: no row in x", house.scatter(0, 3, 0), 3);
        CHECK.refused(house, "scatter: no row in d", house.scatter(0, 2, 3), 3);
        CHECK.refused(house, "scatter: x longer than c", house.scatter(1, 0, 0), 4);
        CHECK.refused(house, "scatter: c longer than x", house.scatter(0, 1, 2), 4);
        CHECK.refused(house, "scatter: values to things", house.scatter(0, 0, 2), 5);
        CHECK.refused(house, "scatter: things to values", house.scatter(2, 0, 0), 5);
        placesAmiss(false);
        cardAheadOfPlace();
    }

    /** The first place of c is amiss by its card, the second has no target: the first one counts. */
    private static void cardAheadOfPlace() {
        ColumnHouse house = new ColumnHouse();
        house.make(7, 12, 1);
        house.make(8, 14, 2);
        Check.fillThings(house, 6, 9, 8, 8);
        Check.fillThings(house, 9, 8, 7, 8);
        Check.fill(house, 5, 4, 0, 2);
        CHECK.refused(house, "scatter: a card, then a place", house.scatter(9, 5, 6), 5);
        Check.fill(house, 5, 4, 0, 0);
        CHECK.refused(house, "scatter: a card that a badge would cover", house.scatter(9, 5, 6), 5);
        Check.fill(house, 5, 4, 2, 0);
        CHECK.refused(house, "scatter: a place ahead of the card at it", house.scatter(9, 5, 6), 4);
        row(house, 6, "9: 14#2 14#2");
    }

    private static void merge() {
        ColumnHouse house = new ColumnHouse();
        Check.fill(house, 0, 4, 1, 3, 3, 9);
        Check.fill(house, 1, 4, 0, 3, 4);
        house.make(2, 4, 7);
        CHECK.done(house, "merge", house.merge(0, 1, 2), 7);
        row(house, 2, "4: 0 1 3 3 3 4 9");
        Check.fill(house, 0, 4, 5, 1, 7);
        Check.fill(house, 1, 4, 6, 2);
        house.make(2, 4, 5);
        CHECK.done(house, "merge of rows that are in no order", house.merge(0, 1, 2), 5);
        row(house, 2, "4: 5 1 6 2 7");
        Check.fill(house, 0, 4, 3, 1);
        Check.fill(house, 1, 4, 3, 5);
        house.make(2, 4, 4);
        CHECK.done(house, "merge: of LIKE ones that of c comes", house.merge(0, 1, 2), 4);
        row(house, 2, "4: 3 1 3 5");
        CHECK.done(house, "merge: of LIKE ones that of c comes", house.merge(1, 0, 2), 4);
        row(house, 2, "4: 3 3 1 5");
        Check.fill(house, 0, 0, 0, 1);
        Check.fill(house, 1, 0, 0, 1, 1);
        house.make(2, 0, 5);
        CHECK.done(house, "merge of FLAGS", house.merge(0, 1, 2), 5);
        row(house, 2, "0: 0 0 1 1 1");
        for (int kind = 0; kind < 8; kind++) {
            house.make(0, 4, 0);
            house.make(1, 5, 0);
            house.make(2, kind, 0);
            CHECK.done(house, "merge of no places", house.merge(0, 1, 2), 0);
        }
    }

    /** Which of LIKE values of several sorts comes first is seen by what is rounded on the way. */
    private static void mergeSorts() {
        ColumnHouse house = new ColumnHouse();
        long big = (1L << 53) + 1;
        Check.fill(house, 0, 5, big);
        Check.fill(house, 1, 5, big - 1);
        house.make(2, 5, 2);
        CHECK.done(house, "merge of LONGS by their numbers", house.merge(0, 1, 2), 2);
        row(house, 2, "5: 9007199254740992 9007199254740993");
        Check.fill(house, 0, 5, big, 3);
        Check.fill(house, 1, 7, 1L << 56);
        house.make(2, 7, 3);
        CHECK.done(house, "merge of a LONG and a LIKE DOUBLE", house.merge(0, 1, 2), 3);
        row(house, 2, "7: 9.007199254740992E15 3.0 9.007199254740992E15");
        CHECK.done(house, "merge of a DOUBLE and a LIKE LONG", house.merge(1, 0, 2), 3);
        row(house, 2, "7: 9.007199254740992E15 9.007199254740992E15 3.0");
        Check.fill(house, 0, 1, -1, 5);
        Check.fill(house, 1, 6, -9, 39, 41);
        house.make(2, 6, 5);
        CHECK.done(house, "merge of BYTES and FLOATS", house.merge(0, 1, 2), 5);
        row(house, 2, "6: -1.125 -1.0 4.875 5.0 5.125");
        CHECK.done(house, "merge of FLOATS and BYTES", house.merge(1, 0, 2), 5);
        row(house, 2, "6: -1.125 -1.0 4.875 5.0 5.125");
        Check.fill(house, 0, 2, 65535);
        Check.fill(house, 1, 3, -1, 7);
        house.make(2, 4, 3);
        CHECK.done(house, "merge of CHARS and SHORTS", house.merge(0, 1, 2), 3);
        row(house, 2, "4: -1 7 65535");
        house.make(0, 7, 0);
        Check.fill(house, 1, 1, 4, 5);
        house.make(2, 1, 2);
        CHECK.done(house, "merge: no place of c doesn't go", house.merge(0, 1, 2), 2);
        row(house, 2, "1: 4 5");
    }

    private static void mergeSameRow() {
        ColumnHouse house = new ColumnHouse();
        Check.fill(house, 0, 4, 3, 1, 2);
        house.make(1, 4, 0);
        CHECK.done(house, "merge into c", house.merge(0, 1, 0), 3);
        row(house, 0, "4: 3 1 2");
        CHECK.done(house, "merge into d", house.merge(1, 0, 0), 3);
        row(house, 0, "4: 3 1 2");
        house.make(2, 4, 6);
        CHECK.done(house, "merge of a row with itself", house.merge(0, 0, 2), 6);
        row(house, 2, "4: 3 1 2 3 1 2");
        CHECK.refused(house, "merge of a row with itself into itself", house.merge(0, 0, 0), 4);
        CHECK.done(house, "merge of no places into themselves", house.merge(1, 1, 1), 0);
    }

    private static void mergeRefused() {
        ColumnHouse house = new ColumnHouse();
        Check.fill(house, 0, 4, 1, 2);
        house.make(1, 4, 4);
        house.make(2, 8, 2);
        house.make(3, 12, 5);
        Check.fill(house, 5, 0, 1, 0);
        house.make(6, 0, 0);
        house.make(7, 1, 4);
        house.make(8, 5, 2);
        house.make(9, 8, 4);
        String before = Check.house(house);
        for (int wrong : NO_COLUMNS) {
            CHECK.refused(house, "merge: column c", house.merge(wrong, 4, 3), 1);
            CHECK.refused(house, "merge: column d", house.merge(4, wrong, 3), 1);
            CHECK.refused(house, "merge: column e", house.merge(4, 3, wrong), 1);
        }
        CHECK.refused(house, "merge: NOTHING in c", house.merge(4, 3, 3), 2);
        CHECK.refused(house, "merge: NOTHING in d", house.merge(3, 4, 2), 2);
        CHECK.refused(house, "merge: NOTHING in e", house.merge(2, 3, 4), 2);
        CHECK.refused(house, "merge: no row in c", house.merge(3, 2, 1), 3);
        CHECK.refused(house, "merge: no row in d", house.merge(2, 3, 1), 3);
        CHECK.refused(house, "merge: no row in e", house.merge(0, 2, 3), 3);
        CHECK.refused(house, "merge: c is no PLAIN ROW", house.merge(2, 0, 1), 6);
        CHECK.refused(house, "merge: d is no PLAIN ROW", house.merge(0, 2, 1), 6);
        CHECK.refused(house, "merge: e is no PLAIN ROW", house.merge(0, 0, 9), 6);
        CHECK.refused(house, "merge: kinds ahead of lengths", house.merge(0, 0, 2), 6);
        CHECK.refused(house, "merge: just c is FLAGS", house.merge(5, 0, 1), 6);
        CHECK.refused(house, "merge: just d is FLAGS", house.merge(0, 5, 1), 6);
        CHECK.refused(house, "merge: just c is FLAGS, of no places", house.merge(6, 0, 8), 6);
        CHECK.refused(house, "merge: e too short", house.merge(0, 0, 8), 4);
        CHECK.refused(house, "merge: e too long", house.merge(0, 6, 1), 6);
        CHECK.refused(house, "merge: lengths ahead of sorts", house.merge(0, 8, 6), 4);
        CHECK.refused(house, "merge: INTS to BYTES", house.merge(0, 0, 7), 5);
        CHECK.refused(house, "merge: LONGS among INTS to INTS", house.merge(0, 8, 1), 5);
        CHECK.refused(house, "merge: FLAGS to INTS", house.merge(5, 5, 1), 5);
        CHECK.refused(house, "merge: INTS to FLAGS", house.merge(0, 1, 6), 4);
        house.make(10, 4, 0);
        CHECK.refused(house, "merge: INTS to FLAGS", house.merge(0, 10, 5), 5);
        house.lay(4, 10);
        CHECK.due("the house after merges that were refused", Check.house(house), before);
    }

    private static void sortValues() {
        ColumnHouse house = new ColumnHouse();
        String[] sorted = {"0: 0 0 1 1", "1: -3 1 7 7", "2: 1 7 7 65533", "3: -3 1 7 7", "4: -3 1 7 7", "5: -3 1 7 7",
            "6: -0.375 0.125 0.875 0.875", "7: -0.375 0.125 0.875 0.875"};
        int[] changed = {2, 3, 3, 3, 3, 3, 3, 3};
        for (int kind = 0; kind < 8; kind++) {
            Check.fill(house, 0, kind, kind == 0 ? new long[] {1, 0, 0, 1} : new long[] {7, -3, 7, 1});
            CHECK.done(house, "sort of kind " + kind, house.sort(0), changed[kind]);
            row(house, 0, sorted[kind]);
            CHECK.done(house, "sort of kind " + kind + " in order", house.sort(0), 0);
            house.make(0, kind, 0);
            CHECK.done(house, "sort of kind " + kind + ", no places", house.sort(0), 0);
        }
        Check.fill(house, 0, 5, Long.MAX_VALUE, Long.MAX_VALUE - 1, Long.MIN_VALUE + 1, Long.MIN_VALUE);
        CHECK.done(house, "sort of LONGS that are one DOUBLE", house.sort(0), 4);
        row(house, 0, "5: -9223372036854775808 -9223372036854775807 9223372036854775806 9223372036854775807");
        Check.fill(house, 0, 4, 24, 23, 22, 21, 20, 19, 18, 17, 16, 15, 14, 13, 12, 11, 10, 9, 8, 7, 6, 5, 4, 3, 2, 1);
        CHECK.done(house, "sort of 24", house.sort(0), 24);
        row(house, 0, "4: 1 2 3 4 5 6 7 8 9 10 11 12 13 14 15 16 17 18 19 20 21 22 23 24");
    }

    private static void sortThings() {
        ColumnHouse house = new ColumnHouse();
        int[] tags = {5, Integer.MIN_VALUE, 5, Integer.MAX_VALUE, 5};
        for (int k = 0; k < 5; k++) {
            house.make(k, 12 + k % 3, tags[k]);
        }
        Check.fillThings(house, 5, 8, 3, 4, 11, 0, 1, 11, 2);
        CHECK.done(house, "sort of CARDS", house.sort(5), 7);
        row(house, 5, "8: - - 13#-2147483648 13#5 12#5 14#5 12#2147483647");
        CHECK.done(house, "sort of CARDS in order", house.sort(5), 0);
        house.make(6, 14, 5);
        Check.fillThings(house, 7, 9, 6, 2, 6, 11);
        CHECK.done(house, "sort of BADGES with the same tags", house.sort(7), 4);
        house.make(8, 9, 4);
        Check.fillThings(house, 8, 9, 11, 6, 2, 6);
        CHECK.done(house, "like ones stay as they stood", house.alike(7, 8), 1);
        sortRows();
    }

    private static void sortRows() {
        ColumnHouse house = new ColumnHouse();
        Check.fill(house, 0, 4, 1, 2);
        Check.fill(house, 1, 4, 9);
        Check.fill(house, 2, 4, 0, 0);
        Check.fillThings(house, 3, 10, 2, 0, 11, 1, 2);
        CHECK.done(house, "sort of SHEETS", house.sort(3), 4);
        Check.fillThings(house, 4, 10, 11, 1, 2, 0, 2);
        CHECK.done(house, "the order of SHEETS", house.alike(3, 4), 1);
        house.make(5, 8, 2);
        house.make(6, 9, 0);
        house.make(7, 9, 2);
        Check.fillThings(house, 8, 11, 7, 5, 6, 11);
        CHECK.done(house, "sort of DECKS", house.sort(8), 4);
        Check.fillThings(house, 9, 11, 11, 6, 7, 5);
        CHECK.done(house, "the order of DECKS", house.alike(8, 9), 1);
    }

    private static void sortRefused() {
        ColumnHouse house = new ColumnHouse();
        house.make(0, 14, 3);
        for (int wrong : NO_COLUMNS) {
            CHECK.refused(house, "sort: column", house.sort(wrong), 1);
        }
        CHECK.refused(house, "sort: NOTHING", house.sort(1), 2);
        CHECK.refused(house, "sort: no row", house.sort(0), 3);
    }

    private static void turn() {
        ColumnHouse house = new ColumnHouse();
        int[] steps = {0, 1, 4, 5, 6, -1, -4, -5, -6, Integer.MAX_VALUE, Integer.MIN_VALUE};
        String[] want = {"1 2 3 4 5", "5 1 2 3 4", "2 3 4 5 1", "1 2 3 4 5", "5 1 2 3 4", "2 3 4 5 1", "5 1 2 3 4",
            "1 2 3 4 5", "2 3 4 5 1", "4 5 1 2 3", "4 5 1 2 3"};
        for (int k = 0; k < steps.length; k++) {
            Check.fill(house, 0, 4, 1, 2, 3, 4, 5);
            CHECK.done(house, "turn by " + steps[k], house.turn(0, steps[k]), 5);
            row(house, 0, "4: " + want[k]);
        }
        Check.fill(house, 0, 7, 1, 2, 3);
        CHECK.done(house, "turn of DOUBLES", house.turn(0, -1), 3);
        row(house, 0, "7: 0.25 0.375 0.125");
        house.make(1, 12, 7);
        Check.fillThings(house, 2, 8, 1, 11, 11);
        CHECK.done(house, "turn of CARDS", house.turn(2, 2), 3);
        row(house, 2, "8: - - 12#7");
        for (int kind = 0; kind < 12; kind++) {
            house.make(0, kind, 0);
            CHECK.done(house, "turn of no places", house.turn(0, 3), 0);
            house.make(0, kind, 1);
            CHECK.done(house, "turn of one place", house.turn(0, Integer.MIN_VALUE), 1);
        }
    }

    private static void turnRefused() {
        ColumnHouse house = new ColumnHouse();
        house.make(0, 14, 3);
        for (int wrong : NO_COLUMNS) {
            CHECK.refused(house, "turn: column", house.turn(wrong, 1), 1);
        }
        CHECK.refused(house, "turn: NOTHING", house.turn(1, 1), 2);
        CHECK.refused(house, "turn: no row", house.turn(0, 1), 3);
    }
}
