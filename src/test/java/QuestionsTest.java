/** Promises 21 to 25: sum, total, find, alike, and why() after them. */
public final class QuestionsTest {
    private static final Check CHECK = new Check();
    private static final int[] NO_COLUMNS = {-1, 12, Integer.MIN_VALUE, Integer.MAX_VALUE};

    public static void main(String[] args) {
        sum();
        total();
        find();
        findLike();
        findRefused();
        alikeValues();
        alikeThings();
        alikeRefused();
        CHECK.end("QuestionsTest");
    }

    private static void sum() {
        ColumnHouse house = new ColumnHouse();
        for (int kind = 1; kind <= 5; kind++) {
            Check.fill(house, 0, kind, 100, -1, 27);
            CHECK.done(house, "sum of kind " + kind, house.sum(0), kind == 2 ? 65662 : 126);
            house.make(0, kind, 0);
            CHECK.done(house, "sum of no places", house.sum(0), 0);
        }
        Check.fill(house, 0, 4, Integer.MAX_VALUE, Integer.MAX_VALUE);
        CHECK.done(house, "sum beyond INT", house.sum(0), 4294967294L);
        Check.fill(house, 0, 5, Long.MAX_VALUE, 2);
        CHECK.done(house, "sum that wraps", house.sum(0), Long.MIN_VALUE + 1);
        for (int kind : new int[] {0, 6, 7, 8, 9, 10, 11}) {
            house.make(0, kind, 2);
            CHECK.refused(house, "sum of kind " + kind, house.sum(0), 6);
            house.make(0, kind, 0);
            CHECK.refused(house, "sum of kind " + kind + ", no places", house.sum(0), 6);
        }
        house.make(1, 12, 3);
        for (int wrong : NO_COLUMNS) {
            CHECK.refused(house, "sum: column", house.sum(wrong), 1);
        }
        CHECK.refused(house, "sum: NOTHING", house.sum(2), 2);
        CHECK.refused(house, "sum: no row", house.sum(1), 3);
    }

    private static void total() {
        ColumnHouse house = new ColumnHouse();
        for (int kind = 1; kind <= 7; kind++) {
            Check.fill(house, 0, kind, 100, -1, 27);
            double want = kind == 2 ? 65662 : kind >= 6 ? 15.75 : 126;
            CHECK.done(house, "total of kind " + kind, house.total(0), want);
            house.make(0, kind, 0);
            CHECK.done(house, "total of no places", house.total(0), 0.0);
        }
        Check.fill(house, 0, 5, 1L << 53, 1, 1);
        CHECK.done(house, "total, each added to those before", house.total(0), 9007199254740992.0);
        Check.fill(house, 0, 5, 1, 1, 1L << 53);
        CHECK.done(house, "total, the small ones first", house.total(0), 9007199254740994.0);
        Check.fill(house, 0, 5, Long.MAX_VALUE, Long.MAX_VALUE);
        CHECK.done(house, "total that doesn't wrap", house.total(0), 18446744073709551616.0);
        Check.fill(house, 0, 6, (1L << 24) - 1, (1L << 24) - 1, (1L << 24) - 1);
        CHECK.done(house, "total of FLOATS in DOUBLES", house.total(0), 50331645.0 / 8);
        Check.fill(house, 0, 4, 16777217, 0);
        CHECK.done(house, "total of INTS in DOUBLES", house.total(0), 16777217.0);
        for (int kind : new int[] {0, 8, 9, 10, 11}) {
            house.make(0, kind, 2);
            CHECK.refused(house, "total of kind " + kind, house.total(0), 6);
            house.make(0, kind, 0);
            CHECK.refused(house, "total of kind " + kind + ", no places", house.total(0), 6);
        }
        house.make(1, 12, 3);
        for (int wrong : NO_COLUMNS) {
            CHECK.refused(house, "total: column", house.total(wrong), 1);
        }
        CHECK.refused(house, "total: NOTHING", house.total(2), 2);
        CHECK.refused(house, "total: no row", house.total(1), 3);
    }

    private static long look(ColumnHouse house, int i, int sort, long v) {
        return house.find(0, i, sort, (int) (v >> 32), (int) v);
    }

    private static void find() {
        ColumnHouse house = new ColumnHouse();
        Check.fill(house, 0, 4, 5, 7, 5, -1, 7);
        CHECK.done(house, "find from 0", look(house, 0, 4, 7), 1);
        CHECK.done(house, "find from the place", look(house, 1, 4, 7), 1);
        CHECK.done(house, "find from behind it", look(house, 2, 4, 7), 4);
        CHECK.done(house, "find from the last", look(house, 4, 4, 7), 4);
        CHECK.done(house, "find from below 0", look(house, -1, 4, 5), 0);
        CHECK.done(house, "find from far below", look(house, Integer.MIN_VALUE, 4, -1), 3);
        CHECK.done(house, "find from the end", look(house, 5, 4, 7), -1);
        CHECK.done(house, "find from far behind", look(house, Integer.MAX_VALUE, 4, 7), -1);
        CHECK.done(house, "find of none", look(house, 0, 4, 8), -1);
        house.make(0, 4, 0);
        CHECK.done(house, "find in no places", look(house, 0, 4, 0), -1);
    }

    private static void findLike() {
        ColumnHouse house = new ColumnHouse();
        for (int kind = 0; kind < 8; kind++) {
            house.make(0, kind, 2);
            for (int sort = 0; sort < 8; sort++) {
                String call = "find of a 0 of sort " + sort + " in " + kind;
                CHECK.done(house, call, look(house, 0, sort, 0), (sort == 0) == (kind == 0) ? 0 : -1);
            }
        }
        Check.fill(house, 0, 0, 0, 1);
        CHECK.done(house, "find of a FLAG", look(house, 0, 0, 3), 1);
        Check.fill(house, 0, 5, (1L << 53) + 1, 1L << 53);
        CHECK.done(house, "find of a LONG by its number", look(house, 0, 5, 1L << 53), 1);
        CHECK.done(house, "find of a DOUBLE by DOUBLES", look(house, 0, 7, 1L << 56), 0);
        CHECK.done(house, "find of a FLOAT by DOUBLES", look(house, 0, 6, 1L << 56), 0);
        Check.fill(house, 0, 6, 134217728, 9);
        CHECK.done(house, "find of an INT in FLOATS, by DOUBLES", look(house, 0, 4, 16777217), -1);
        CHECK.done(house, "find of an INT in FLOATS", look(house, 0, 4, 16777216), 0);
        CHECK.done(house, "find of a DOUBLE in FLOATS", look(house, 0, 7, 9), 1);
        Check.fill(house, 0, 2, 65535);
        CHECK.done(house, "find of SHORT -1 in CHARS", look(house, 0, 3, -1), -1);
        CHECK.done(house, "find of CHAR -1 in CHARS", look(house, 0, 2, -1), 0);
        CHECK.done(house, "find of an INT in CHARS", look(house, 0, 4, 65535), 0);
    }

    private static void findRefused() {
        ColumnHouse house = new ColumnHouse();
        Check.fill(house, 0, 4, 5, 7);
        house.make(1, 12, 3);
        for (int wrong : NO_COLUMNS) {
            CHECK.refused(house, "find: column", house.find(wrong, 0, 4, 0, 5), 1);
        }
        for (int sort : new int[] {-1, 8, Integer.MIN_VALUE, Integer.MAX_VALUE}) {
            CHECK.refused(house, "find: sort", house.find(0, 0, sort, 0, 5), 1);
            CHECK.refused(house, "find: sort ahead of NOTHING", house.find(2, 0, sort, 0, 5), 1);
            CHECK.refused(house, "find: sort ahead of no row", house.find(1, 0, sort, 0, 5), 1);
        }
        CHECK.refused(house, "find: NOTHING", house.find(2, 0, 4, 0, 5), 2);
        CHECK.refused(house, "find: no row", house.find(1, 0, 4, 0, 5), 3);
        for (int kind = 8; kind < 12; kind++) {
            house.make(3, kind, 2);
            CHECK.refused(house, "find: row of things", house.find(3, 9, 4, 0, 5), 6);
        }
    }

    private static void alikeValues() {
        ColumnHouse house = new ColumnHouse();
        for (int first = 0; first < 12; first++) {
            house = new ColumnHouse();
            for (int second = 0; second < 12; second++) {
                house.make(0, first, 2);
                house.make(1, second, 2);
                boolean like = first >= 8 || second >= 8 ? first >= 8 && second >= 8 : (first == 0) == (second == 0);
                String call = "alike of " + first + " and " + second;
                CHECK.done(house, call, house.alike(0, 1), like ? 1 : 0);
                house.make(0, first, 0);
                CHECK.done(house, call + ", not as long", house.alike(0, 1), 0);
                house.make(1, second, 0);
                CHECK.done(house, call + ", no places", house.alike(0, 1), 1);
            }
        }
        Check.fill(house, 0, 5, 1, (1L << 53) + 1);
        Check.fill(house, 1, 5, 1, 1L << 53);
        Check.fill(house, 2, 7, 8, 1L << 56);
        CHECK.done(house, "alike of LONGS by their numbers", house.alike(0, 1), 0);
        CHECK.done(house, "alike of LONGS and DOUBLES", house.alike(0, 2), 1);
        CHECK.done(house, "alike of DOUBLES and LONGS", house.alike(2, 1), 1);
        CHECK.done(house, "alike of a row and itself", house.alike(0, 0), 1);
        Check.fill(house, 3, 1, 1, 2);
        Check.fill(house, 4, 2, 1, 3);
        CHECK.done(house, "alike but for the last", house.alike(3, 4), 0);
    }

    private static void alikeThings() {
        ColumnHouse house = new ColumnHouse();
        house.make(0, 14, 5);
        house.make(1, 14, 5);
        Check.fillThings(house, 2, 8, 0, 11);
        Check.fillThings(house, 3, 9, 0, 11);
        Check.fillThings(house, 4, 9, 1, 11);
        Check.fillThings(house, 5, 9, 0, 0);
        CHECK.done(house, "alike of the same things", house.alike(2, 3), 1);
        CHECK.done(house, "alike of others with the same tags", house.alike(2, 4), 0);
        CHECK.done(house, "alike of NOTHING and a thing", house.alike(2, 5), 0);
        CHECK.done(house, "alike of a thing and NOTHING", house.alike(5, 2), 0);
        house.make(6, 4, 2);
        CHECK.done(house, "alike of values and things", house.alike(6, 2), 0);
        house.make(7, 8, 2);
        CHECK.done(house, "alike of zeros and NOTHINGS", house.alike(6, 7), 0);
        CHECK.done(house, "alike of NOTHINGS and zeros", house.alike(7, 6), 0);
    }

    private static void alikeRefused() {
        ColumnHouse house = new ColumnHouse();
        house.make(0, 4, 2);
        house.make(1, 12, 2);
        for (int wrong : NO_COLUMNS) {
            CHECK.refused(house, "alike: column c", house.alike(wrong, 2), 1);
            CHECK.refused(house, "alike: column d", house.alike(2, wrong), 1);
            CHECK.refused(house, "alike: column d ahead of no row", house.alike(1, wrong), 1);
        }
        CHECK.refused(house, "alike: NOTHING in c", house.alike(2, 1), 2);
        CHECK.refused(house, "alike: NOTHING in d", house.alike(1, 2), 2);
        CHECK.refused(house, "alike: NOTHING in both", house.alike(2, 2), 2);
        CHECK.refused(house, "alike: no row in c", house.alike(1, 0), 3);
        CHECK.refused(house, "alike: no row in d", house.alike(0, 1), 3);
        CHECK.due("why() stays", house.why(), 3);
    }
}
