/**
 * A house of columns: twelve columns that hold rows of values, rows of things, or cards.
 * The words of this file (FLAG, TOLD, LIKE, WHY and so on) are those of the project's document.
 */
public final class ColumnHouse {
    private static final int COLUMNS = 12;
    private static final int LONGEST = 24;

    private static final int FLAG = 0;
    private static final int BYTE = 1;
    private static final int CHAR = 2;
    private static final int SHORT = 3;
    private static final int INT = 4;
    private static final int LONG = 5;
    private static final int FLOAT = 6;
    private static final int DOUBLE = 7;

    private static final int CARDS = 8;
    private static final int BADGES = 9;
    private static final int SHEETS = 10;
    private static final int CARD = 12;
    private static final int BADGE = 14;

    private static final int NO_KIND = -1;

    private static final int WRONG_NUMBER = 1;
    private static final int NOTHING_THERE = 2;
    private static final int NOT_A_ROW = 3;
    private static final int WRONG_PLACE = 4;
    private static final int NO_FIT = 5;
    private static final int WRONG_KIND = 6;

    private final Thing[] columns;
    // Whole columns are read into the draft before anything is written: so a refused call changes
    // nothing, and a row that two columns hold is read as it was before the call.
    private final Cell[] draft;
    private final int[] targets;
    private final Cell left;
    private final Cell right;
    private int reason;

    public ColumnHouse() {
        columns = new Thing[COLUMNS];
        draft = new Cell[LONGEST];
        for (int k = 0; k < LONGEST; k++) {
            draft[k] = new Cell();
        }
        targets = new int[LONGEST];
        left = new Cell();
        right = new Cell();
        reason = 0;
    }

    public int make(int c, int k, int n) {
        if (!isColumn(c) || k < 0 || k > BADGE) {
            return refuse(WRONG_NUMBER);
        }
        if (k < CARD && (n < 0 || n > LONGEST)) {
            return refuse(WRONG_NUMBER);
        }
        columns[c] = k < CARD ? newRow(k, n) : new Card(k, n);
        return done(1);
    }

    public int lay(int c, int d) {
        if (!isColumn(c) || !isColumn(d)) {
            return refuse(WRONG_NUMBER);
        }
        columns[d] = columns[c];
        return done(columns[d] == null ? 0 : 1);
    }

    public int places(int c) {
        Row row = rowIn(c);
        if (row == null) {
            return refuse(whyNoRow(c, c, c));
        }
        return done(row.size);
    }

    public int kind(int c) {
        if (!isColumn(c)) {
            return refuse(WRONG_NUMBER);
        }
        return done(kindOf(columns[c]));
    }

    public int tag(int c) {
        Card card = cardIn(c);
        if (card == null) {
            return refuse(whyNoCard(c));
        }
        return done(card.tag);
    }

    public int load(int c) {
        Card card = cardIn(c);
        if (card == null) {
            return refuse(whyNoCard(c));
        }
        return done(card.kind == BADGE ? 2 * card.tag + 1 : card.tag);
    }

    // ---- one place

    public int put(int c, int i, int sort, int a, int b) {
        if (sort < FLAG || sort > DOUBLE) {
            return refuse(WRONG_NUMBER);
        }
        Row row = rowIn(c);
        if (row == null) {
            return refuse(whyNoRow(c, c, c));
        }
        if (!row.has(i)) {
            return refuse(WRONG_PLACE);
        }
        left.holdTold(sort, a, b);
        if (!row.accepts(left)) {
            return refuse(NO_FIT);
        }
        row.write(i, left);
        return done(1);
    }

    public int putBoxed(int c, int i, int sort, int a, int b) {
        return put(c, i, sort, a, b);
    }

    public int putThing(int c, int i, int d) {
        if (!isColumn(d)) {
            return refuse(WRONG_NUMBER);
        }
        Row row = rowIn(c);
        if (row == null) {
            return refuse(whyNoRow(c, c, c));
        }
        if (!row.has(i)) {
            return refuse(WRONG_PLACE);
        }
        left.holdThing(columns[d]);
        if (!row.accepts(left)) {
            return refuse(NO_FIT);
        }
        row.write(i, left);
        return done(columns[d] == null ? 0 : 1);
    }

    public long number(int c, int i, int sort) {
        if (sort < FLAG || sort > LONG) {
            return refuse(WRONG_NUMBER);
        }
        int amiss = whyNoValue(c, i, sort);
        if (amiss != 0) {
            return refuse(amiss);
        }
        reason = 0;
        return left.whole;
    }

    public double point(int c, int i, int sort) {
        if (sort != FLOAT && sort != DOUBLE) {
            return refuse(WRONG_NUMBER);
        }
        int amiss = whyNoValue(c, i, sort);
        if (amiss != 0) {
            return refuse(amiss);
        }
        reason = 0;
        return left.asPoint(sort);
    }

    public int what(int c, int i) {
        Row row = rowIn(c);
        if (row == null) {
            return refuse(whyNoRow(c, c, c));
        }
        if (!row.has(i)) {
            return refuse(WRONG_PLACE);
        }
        row.read(i, left);
        return done(left.isValue() ? left.sort : kindOf(left.thing));
    }

    public int take(int c, int i, int d) {
        if (!isColumn(d)) {
            return refuse(WRONG_NUMBER);
        }
        Row row = rowIn(c);
        if (row == null) {
            return refuse(whyNoRow(c, c, c));
        }
        if (row.isPlain()) {
            return refuse(WRONG_KIND);
        }
        if (!row.has(i)) {
            return refuse(WRONG_PLACE);
        }
        row.read(i, left);
        columns[d] = left.thing;
        return done(left.thing == null ? 0 : 1);
    }

    // ---- whole columns

    public int copy(int c, int d) {
        Row from = rowIn(c);
        Row to = rowIn(d);
        if (from == null || to == null) {
            return refuse(whyNoRow(c, d, d));
        }
        if (from.size != to.size) {
            return refuse(WRONG_PLACE);
        }
        for (int k = 0; k < to.size; k++) {
            if (!drafts(k, from, k, to)) {
                return refuse(NO_FIT);
            }
        }
        return done(writeDraft(to));
    }

    public int gather(int c, int x, int d) {
        Row from = rowIn(c);
        Row index = rowIn(x);
        Row to = rowIn(d);
        if (from == null || index == null || to == null) {
            return refuse(whyNoRow(c, x, d));
        }
        int amiss = whyNoIndex(index, to.size);
        if (amiss != 0) {
            return refuse(amiss);
        }
        for (int k = 0; k < to.size; k++) {
            int source = placeAt(index, k);
            if (!from.has(source)) {
                return refuse(WRONG_PLACE);
            }
            if (!drafts(k, from, source, to)) {
                return refuse(NO_FIT);
            }
        }
        return done(writeDraft(to));
    }

    public int scatter(int c, int x, int d) {
        Row from = rowIn(c);
        Row index = rowIn(x);
        Row to = rowIn(d);
        if (from == null || index == null || to == null) {
            return refuse(whyNoRow(c, x, d));
        }
        int amiss = whyNoIndex(index, from.size);
        if (amiss != 0) {
            return refuse(amiss);
        }
        for (int k = 0; k < index.size; k++) {
            targets[k] = placeAt(index, k);
            if (!to.has(targets[k])) {
                return refuse(WRONG_PLACE);
            }
            if (!drafts(k, from, k, to)) {
                return refuse(NO_FIT);
            }
        }
        for (int k = 0; k < index.size; k++) {
            to.write(targets[k], draft[k]);
        }
        return done(index.size);
    }

    public int merge(int c, int d, int e) {
        Row first = rowIn(c);
        Row second = rowIn(d);
        Row to = rowIn(e);
        if (first == null || second == null || to == null) {
            return refuse(whyNoRow(c, d, e));
        }
        if (!first.isPlain() || !second.isPlain() || !to.isPlain()) {
            return refuse(WRONG_KIND);
        }
        if ((first.kind == FLAG) != (second.kind == FLAG)) {
            return refuse(WRONG_KIND);
        }
        if (to.size != first.size + second.size) {
            return refuse(WRONG_PLACE);
        }
        int i = 0;
        int j = 0;
        for (int k = 0; k < to.size; k++) {
            boolean fromSecond = secondIsNext(first, i, second, j);
            boolean goes = fromSecond ? drafts(k, second, j, to) : drafts(k, first, i, to);
            if (!goes) {
                return refuse(NO_FIT);
            }
            i += fromSecond ? 0 : 1;
            j += fromSecond ? 1 : 0;
        }
        return done(writeDraft(to));
    }

    public int sort(int c) {
        Row row = rowIn(c);
        if (row == null) {
            return refuse(whyNoRow(c, c, c));
        }
        readDraft(row);
        orderDraft(row.size);
        int changed = 0;
        for (int k = 0; k < row.size; k++) {
            row.read(k, left);
            // LIKE is enough to tell another value: both are of one sort, and no row can have -0,
            // since the only zero that is TOLD comes from the whole number 0.
            if (!left.isLike(draft[k])) {
                changed++;
            }
            row.write(k, draft[k]);
        }
        return done(changed);
    }

    public int turn(int c, int n) {
        Row row = rowIn(c);
        if (row == null) {
            return refuse(whyNoRow(c, c, c));
        }
        if (row.size == 0) {
            return done(0);
        }
        readDraft(row);
        int target = Math.floorMod(n, row.size);
        for (int k = 0; k < row.size; k++) {
            row.write(target, draft[k]);
            target = target + 1 < row.size ? target + 1 : 0;
        }
        return done(row.size);
    }

    // ---- questions about whole columns

    public long sum(int c) {
        Row row = rowIn(c);
        if (row == null) {
            return refuse(whyNoRow(c, c, c));
        }
        if (row.kind < BYTE || row.kind > LONG) {
            return refuse(WRONG_KIND);
        }
        long all = 0;
        for (int k = 0; k < row.size; k++) {
            row.read(k, left);
            all += left.whole;
        }
        reason = 0;
        return all;
    }

    public double total(int c) {
        Row row = rowIn(c);
        if (row == null) {
            return refuse(whyNoRow(c, c, c));
        }
        if (!row.isPlain() || row.kind == FLAG) {
            return refuse(WRONG_KIND);
        }
        double all = 0;
        for (int k = 0; k < row.size; k++) {
            row.read(k, left);
            all += left.asPoint(DOUBLE);
        }
        reason = 0;
        return all;
    }

    public int find(int c, int i, int sort, int a, int b) {
        if (sort < FLAG || sort > DOUBLE) {
            return refuse(WRONG_NUMBER);
        }
        Row row = rowIn(c);
        if (row == null) {
            return refuse(whyNoRow(c, c, c));
        }
        if (!row.isPlain()) {
            return refuse(WRONG_KIND);
        }
        left.holdTold(sort, a, b);
        for (int k = Math.max(i, 0); k < row.size; k++) {
            row.read(k, right);
            if (left.isLike(right)) {
                return done(k);
            }
        }
        return done(-1);
    }

    public int alike(int c, int d) {
        Row first = rowIn(c);
        Row second = rowIn(d);
        if (first == null || second == null) {
            return refuse(whyNoRow(c, d, d));
        }
        if (first.size != second.size) {
            return done(0);
        }
        for (int k = 0; k < first.size; k++) {
            first.read(k, left);
            second.read(k, right);
            if (!left.isLike(right)) {
                return done(0);
            }
        }
        return done(1);
    }

    public int why() {
        return reason;
    }

    // ---- what the calls share

    private int refuse(int because) {
        reason = because;
        return 0;
    }

    private int done(int answer) {
        reason = 0;
        return answer;
    }

    private static boolean isColumn(int c) {
        return c >= 0 && c < COLUMNS;
    }

    private Row rowIn(int c) {
        return isColumn(c) && columns[c] instanceof Row row ? row : null;
    }

    private Card cardIn(int c) {
        return isColumn(c) && columns[c] instanceof Card card ? card : null;
    }

    private static int kindOf(Thing thing) {
        return thing == null ? NO_KIND : thing.kind;
    }

    private static Row newRow(int kind, int size) {
        if (kind <= LONG) {
            return new WholeRow(kind, size);
        }
        if (kind <= DOUBLE) {
            return new PointRow(kind, size);
        }
        return new ThingRow(kind, size);
    }

    /** Why one of the columns holds no row; a call that wants fewer than three names one again. */
    private int whyNoRow(int c, int d, int e) {
        if (!isColumn(c) || !isColumn(d) || !isColumn(e)) {
            return WRONG_NUMBER;
        }
        if (columns[c] == null || columns[d] == null || columns[e] == null) {
            return NOTHING_THERE;
        }
        return NOT_A_ROW;
    }

    private static int whyNoCard(int c) {
        return isColumn(c) ? NO_FIT : WRONG_NUMBER;
    }

    /** Why place i has no value that goes into the sort; 0, and the value in left, if it has. */
    private int whyNoValue(int c, int i, int sort) {
        Row row = rowIn(c);
        if (row == null) {
            return whyNoRow(c, c, c);
        }
        if (!row.has(i)) {
            return WRONG_PLACE;
        }
        if (!goesInto(row.kind, sort)) {
            return NO_FIT;
        }
        row.read(i, left);
        return 0;
    }

    /** Whether a sort goes into another; kinds of rows of things go into no sort. */
    private static boolean goesInto(int from, int to) {
        if (from == to) {
            return true;
        }
        if (from == FLAG || to == CHAR || (from == CHAR && to == SHORT)) {
            return false;
        }
        return from < to;
    }

    /** Why a row doesn't tell a place for each of so many; 0 if it does. */
    private static int whyNoIndex(Row index, int count) {
        if (!goesInto(index.kind, INT)) {
            return WRONG_KIND;
        }
        return index.size == count ? 0 : WRONG_PLACE;
    }

    private int placeAt(Row index, int k) {
        index.read(k, left);
        return (int) left.whole;
    }

    private boolean secondIsNext(Row first, int i, Row second, int j) {
        if (!first.has(i)) {
            return true;
        }
        if (!second.has(j)) {
            return false;
        }
        first.read(i, left);
        second.read(j, right);
        return right.isLess(left);
    }

    /** Drafts place i of a row as place k; false if that doesn't go, or fit, into the row it is for. */
    private boolean drafts(int k, Row from, int i, Row to) {
        from.read(i, draft[k]);
        return to.accepts(draft[k]);
    }

    private void readDraft(Row from) {
        for (int k = 0; k < from.size; k++) {
            from.read(k, draft[k]);
        }
    }

    private int writeDraft(Row to) {
        for (int k = 0; k < to.size; k++) {
            to.write(k, draft[k]);
        }
        return to.size;
    }

    /** Puts the first cells of the draft in order; a cell passes only those that it is LESS than. */
    private void orderDraft(int size) {
        for (int k = 1; k < size; k++) {
            Cell moving = draft[k];
            int hole = k;
            while (hole > 0 && moving.isLess(draft[hole - 1])) {
                draft[hole] = draft[hole - 1];
                hole--;
            }
            draft[hole] = moving;
        }
    }

    private abstract static class Thing {
        final int kind;

        Thing(int kind) {
            this.kind = kind;
        }

        /** What things in one row are put in order by. */
        abstract int rank();
    }

    private static final class Card extends Thing {
        final int tag;

        Card(int kind, int tag) {
            super(kind);
            this.tag = tag;
        }

        int rank() {
            return tag;
        }
    }

    /** A row; who reads or writes a place of it asks has() before, and accepts() before a write. */
    private abstract static class Row extends Thing {
        final int size;

        Row(int kind, int size) {
            super(kind);
            this.size = size;
        }

        int rank() {
            return size;
        }

        boolean has(int i) {
            return i >= 0 && i < size;
        }

        abstract boolean isPlain();

        abstract boolean accepts(Cell cell);

        abstract void read(int i, Cell into);

        abstract void write(int i, Cell from);
    }

    private abstract static class PlainRow extends Row {
        PlainRow(int kind, int size) {
            super(kind, size);
        }

        boolean isPlain() {
            return true;
        }

        boolean accepts(Cell cell) {
            return cell.isValue() && goesInto(cell.sort, kind);
        }
    }

    private static final class WholeRow extends PlainRow {
        private final long[] wholes;

        WholeRow(int kind, int size) {
            super(kind, size);
            wholes = new long[size];
        }

        void read(int i, Cell into) {
            into.holdWhole(kind, wholes[i]);
        }

        void write(int i, Cell from) {
            wholes[i] = from.whole;
        }
    }

    /** FLOATS stand in it as the DOUBLES that they become, which loses nothing. */
    private static final class PointRow extends PlainRow {
        private final double[] points;

        PointRow(int kind, int size) {
            super(kind, size);
            points = new double[size];
        }

        void read(int i, Cell into) {
            into.holdPoint(kind, points[i]);
        }

        void write(int i, Cell from) {
            points[i] = from.asPoint(kind);
        }
    }

    private static final class ThingRow extends Row {
        private final Thing[] things;

        ThingRow(int kind, int size) {
            super(kind, size);
            things = new Thing[size];
        }

        boolean isPlain() {
            return false;
        }

        boolean accepts(Cell cell) {
            return !cell.isValue() && (cell.thing == null || fits(cell.thing.kind));
        }

        private boolean fits(int other) {
            if (kind == CARDS) {
                return other >= CARD;
            }
            if (kind == BADGES) {
                return other == BADGE;
            }
            if (kind == SHEETS) {
                return other == INT;
            }
            return other == CARDS || other == BADGES;
        }

        void read(int i, Cell into) {
            into.holdThing(things[i]);
        }

        void write(int i, Cell from) {
            things[i] = from.thing;
        }
    }

    /** What one place has: a value (in whole for the sorts FLAG to LONG, else in point), or a thing. */
    private static final class Cell {
        private static final int NO_SORT = -1;

        int sort = NO_SORT;
        long whole;
        double point;
        Thing thing;

        void holdWhole(int itsSort, long number) {
            sort = itsSort;
            whole = number;
        }

        void holdPoint(int itsSort, double number) {
            sort = itsSort;
            point = number;
        }

        void holdThing(Thing held) {
            sort = NO_SORT;
            thing = held;
        }

        void holdTold(int itsSort, int a, int b) {
            long v = ((long) a << 32) | (b & 0xFFFFFFFFL);
            switch (itsSort) {
                case FLAG:
                    holdWhole(FLAG, v & 1);
                    break;
                case BYTE:
                    holdWhole(BYTE, (byte) v);
                    break;
                case CHAR:
                    holdWhole(CHAR, (char) v);
                    break;
                case SHORT:
                    holdWhole(SHORT, (short) v);
                    break;
                case INT:
                    holdWhole(INT, (int) v);
                    break;
                case LONG:
                    holdWhole(LONG, v);
                    break;
                case FLOAT:
                    holdPoint(FLOAT, (float) v / 8);
                    break;
                default:
                    holdPoint(DOUBLE, (double) v / 8);
                    break;
            }
        }

        boolean isValue() {
            return sort != NO_SORT;
        }

        /** A LONG becomes a FLOAT in one step: by way of a DOUBLE it would be rounded twice. */
        double asPoint(int wanted) {
            if (sort >= FLOAT) {
                return point;
            }
            if (wanted == FLOAT) {
                return (float) whole;
            }
            return (double) whole;
        }

        boolean isLike(Cell other) {
            if (!isValue() || !other.isValue()) {
                return sort == other.sort && thing == other.thing;
            }
            if ((sort == FLAG) != (other.sort == FLAG)) {
                return false;
            }
            if (sort < FLOAT && other.sort < FLOAT) {
                return whole == other.whole;
            }
            return asPoint(DOUBLE) == other.asPoint(DOUBLE);
        }

        /** Both hold values, or both what one row of things has; NOTHING is less than a thing. */
        boolean isLess(Cell other) {
            if (!isValue()) {
                return other.thing != null && (thing == null || thing.rank() < other.thing.rank());
            }
            if (sort < FLOAT && other.sort < FLOAT) {
                return whole < other.whole;
            }
            return asPoint(DOUBLE) < other.asPoint(DOUBLE);
        }
    }
}
