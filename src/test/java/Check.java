/** Compares answers with those that are due, prints each that differs, and ends a test. */
final class Check {
    private int compared = 0;
    private int wrong = 0;

    void due(String call, Object got, Object want) {
        compared++;
        if (!got.equals(want)) {
            wrong++;
            System.out.println(call + " answered " + got + ", due is " + want);
        }
    }

    /** A call that was done: its answer, and WHY 0. */
    void done(ColumnHouse house, String call, long got, long want) {
        due(call, got, want);
        due("why() after " + call, house.why(), 0);
    }

    /** Doubles are compared by their bits, so that -0 is not taken for 0. */
    void done(ColumnHouse house, String call, double got, double want) {
        due(call, got, want);
        due("why() after " + call, house.why(), 0);
    }

    /** A call that was refused: it answers 0, and WHY tells the reason. */
    void refused(ColumnHouse house, String call, double got, int reason) {
        due(call, got, 0.0);
        due("why() after " + call, house.why(), reason);
    }

    /** The row in a column as a text: its kind and what its places have. */
    static String row(ColumnHouse house, int c) {
        int kind = house.kind(c);
        if (kind < 0) {
            return "nothing";
        }
        if (kind >= 12) {
            return kind + "#" + house.tag(c);
        }
        StringBuilder text = new StringBuilder().append(kind).append(":");
        int places = house.places(c);
        for (int i = 0; i < places; i++) {
            text.append(' ');
            if (kind <= 5) {
                text.append(house.number(c, i, kind));
            } else if (kind <= 7) {
                text.append(house.point(c, i, kind));
            } else {
                text.append(thing(house, c, i));
            }
        }
        return text.toString();
    }

    /** Column 11 serves to look at a thing in a row, and then has again what it had. */
    private static String thing(ColumnHouse house, int c, int i) {
        int kind = house.what(c, i);
        if (kind < 0) {
            return "-";
        }
        if (c == 11 || house.kind(11) >= 0) {
            return "" + kind;
        }
        house.take(c, i, 11);
        String text = kind + (kind >= 12 ? "#" + house.tag(11) : "x" + house.places(11));
        house.make(11, 8, 1);
        house.take(11, 0, 11);
        return text;
    }

    /** All columns as a text. */
    static String house(ColumnHouse house) {
        StringBuilder text = new StringBuilder();
        for (int c = 0; c < 12; c++) {
            text.append('[').append(row(house, c)).append(']');
        }
        return text.toString();
    }

    /** Makes a row of a kind 0 to 7 in column c of values that are TOLD by its sort and a long. */
    static void fill(ColumnHouse house, int c, int kind, long... values) {
        house.make(c, kind, values.length);
        for (int i = 0; i < values.length; i++) {
            house.put(c, i, kind, (int) (values[i] >> 32), (int) values[i]);
        }
    }

    /** Makes a row of things in column c of what the columns hold. */
    static void fillThings(ColumnHouse house, int c, int kind, int... columns) {
        house.make(c, kind, columns.length);
        for (int i = 0; i < columns.length; i++) {
            house.putThing(c, i, columns[i]);
        }
    }

    void end(String test) {
        System.out.println(test + ": " + compared + " answers compared, " + wrong + " wrong");
        if (wrong != 0 || compared == 0) {
            System.exit(1);
        }
    }
}
