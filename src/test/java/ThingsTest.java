/** Promises 1 to 7 and 25: a new house, make, lay, places, kind, tag, load, why. */
public final class ThingsTest {
    private static final Check CHECK = new Check();

    public static void main(String[] args) {
        newObject();
        make();
        makeRefused();
        lay();
        places();
        kind();
        tagAndLoad();
        why();
        CHECK.end("ThingsTest");
    }

    private static void newObject() {
        ColumnHouse house = new ColumnHouse();
        CHECK.due("why() of a new house", house.why(), 0);
        for (int c = 0; c < 12; c++) {
            CHECK.done(house, "new: kind(" + c + ")", house.kind(c), -1);
        }
        ColumnHouse other = new ColumnHouse();
        house.make(3, 4, 2);
        house.sum(7);
        CHECK.due("why() of a house beside another", other.why(), 0);
        CHECK.done(other, "kind(3) of a house beside another", other.kind(3), -1);
    }

    private static void make() {
        ColumnHouse house = new ColumnHouse();
        for (int k = 0; k <= 11; k++) {
            house = new ColumnHouse();
            for (int n : new int[] {0, 1, 24}) {
                String call = "make(" + k + ", " + k + ", " + n + ")";
                CHECK.done(house, call, house.make(k, k, n), 1);
                CHECK.done(house, "kind after " + call, house.kind(k), k);
                CHECK.done(house, "places after " + call, house.places(k), n);
                for (int i = 0; i < n; i++) {
                    CHECK.done(house, "what after " + call, house.what(k, i), k < 8 ? k : -1);
                    if (k < 6) {
                        CHECK.done(house, "number after " + call, house.number(k, i, k), 0);
                    } else if (k < 8) {
                        CHECK.done(house, "point after " + call, house.point(k, i, k), 0.0);
                    }
                }
            }
        }
        for (int k = 12; k <= 14; k++) {
            for (int n : new int[] {0, -1, 25, Integer.MIN_VALUE, Integer.MAX_VALUE}) {
                CHECK.done(house, "make of a card", house.make(11, k, n), 1);
                CHECK.done(house, "kind of a card", house.kind(11), k);
                CHECK.done(house, "tag of a card", house.tag(11), n);
            }
        }
        house.make(0, 4, 2);
        house.lay(0, 1);
        house.make(0, 4, 2);
        house.put(0, 0, 4, 0, 9);
        CHECK.done(house, "a new row is another one", house.number(1, 0, 4), 0);
    }

    private static void makeRefused() {
        ColumnHouse house = new ColumnHouse();
        Check.fill(house, 0, 4, 5, 6);
        String before = Check.house(house);
        int[][] wrong = {{-1, 4, 2}, {12, 4, 2}, {Integer.MIN_VALUE, 12, 2}, {Integer.MAX_VALUE, 12, 2}, {0, -1, 2},
            {0, 15, 2}, {0, Integer.MIN_VALUE, 2}, {0, 0, -1}, {0, 0, 25}, {0, 7, 25}, {0, 8, 25}, {0, 11, -1},
            {0, 11, 25}, {0, 4, Integer.MIN_VALUE}, {0, 4, Integer.MAX_VALUE}, {12, 14, 0}};
        for (int[] w : wrong) {
            String call = "make(" + w[0] + ", " + w[1] + ", " + w[2] + ")";
            CHECK.refused(house, call, house.make(w[0], w[1], w[2]), 1);
            CHECK.due("the house after " + call, Check.house(house), before);
        }
    }

    private static void lay() {
        ColumnHouse house = new ColumnHouse();
        Check.fill(house, 0, 4, 5, 6);
        CHECK.done(house, "lay of a row", house.lay(0, 11), 1);
        house.put(11, 1, 4, 0, 8);
        CHECK.done(house, "a laid row is the same one", house.number(0, 1, 4), 8);
        CHECK.done(house, "lay onto itself", house.lay(0, 0), 1);
        CHECK.due("a row laid onto itself", Check.row(house, 0), "4: 5 8");
        CHECK.done(house, "lay of NOTHING", house.lay(5, 11), 0);
        CHECK.done(house, "kind after lay of NOTHING", house.kind(11), -1);
        CHECK.due("the row after lay of NOTHING", Check.row(house, 0), "4: 5 8");
        CHECK.done(house, "lay of NOTHING onto NOTHING", house.lay(5, 6), 0);
        for (int wrong : new int[] {-1, 12, Integer.MIN_VALUE, Integer.MAX_VALUE}) {
            CHECK.refused(house, "lay(" + wrong + ", 0)", house.lay(wrong, 0), 1);
            CHECK.refused(house, "lay(0, " + wrong + ")", house.lay(0, wrong), 1);
        }
        CHECK.due("the row after lays that were refused", Check.row(house, 0), "4: 5 8");
    }

    private static void places() {
        ColumnHouse house = new ColumnHouse();
        house.make(0, 10, 24);
        house.make(1, 0, 0);
        house.make(2, 13, 7);
        CHECK.done(house, "places of 24", house.places(0), 24);
        CHECK.done(house, "places of none", house.places(1), 0);
        CHECK.refused(house, "places of a card", house.places(2), 3);
        CHECK.refused(house, "places of NOTHING", house.places(3), 2);
        CHECK.refused(house, "places(-1)", house.places(-1), 1);
        CHECK.refused(house, "places(12)", house.places(12), 1);
    }

    private static void kind() {
        ColumnHouse house = new ColumnHouse();
        house.make(11, 14, 7);
        CHECK.done(house, "kind of a badge", house.kind(11), 14);
        CHECK.done(house, "kind of NOTHING", house.kind(0), -1);
        CHECK.refused(house, "kind(-1)", house.kind(-1), 1);
        CHECK.refused(house, "kind(12)", house.kind(12), 1);
    }

    private static void tagAndLoad() {
        ColumnHouse house = new ColumnHouse();
        int[] tags = {0, 1, -1, 9, -4, 1 << 30, Integer.MAX_VALUE, Integer.MIN_VALUE};
        int[] loads = {1, 3, -1, 19, -7, Integer.MIN_VALUE + 1, -1, 1};
        for (int t = 0; t < tags.length; t++) {
            for (int k = 12; k <= 14; k++) {
                house.make(0, k, tags[t]);
                CHECK.done(house, "tag of " + tags[t], house.tag(0), tags[t]);
                CHECK.done(house, "load of " + k + ", " + tags[t], house.load(0), k == 14 ? loads[t] : tags[t]);
            }
        }
        house.make(1, 8, 3);
        house.make(2, 4, 3);
        for (int c : new int[] {1, 2, 3}) {
            CHECK.refused(house, "tag of no card", house.tag(c), 5);
            CHECK.refused(house, "load of no card", house.load(c), 5);
        }
        for (int c : new int[] {-1, 12}) {
            CHECK.refused(house, "tag of no column", house.tag(c), 1);
            CHECK.refused(house, "load of no column", house.load(c), 1);
        }
    }

    private static void why() {
        ColumnHouse house = new ColumnHouse();
        house.places(4);
        CHECK.due("why() after NOTHING", house.why(), 2);
        CHECK.due("why() once more", house.why(), 2);
        house.kind(4);
        CHECK.due("why() after a call that was done", house.why(), 0);
        house.kind(12);
        CHECK.due("why() after a wrong number", house.why(), 1);
        house.lay(0, 1);
        CHECK.due("why() after a call that was done and answered 0", house.why(), 0);
        whyAfterRefused();
    }

    /** Every call that is done takes away the reason of the one before. */
    private static void whyAfterRefused() {
        ColumnHouse house = new ColumnHouse();
        Check.fill(house, 0, 4, 0, 1);
        Check.fill(house, 1, 4, 0, 0, 1, 1);
        house.make(2, 12, 5);
        Check.fillThings(house, 3, 8, 2);
        for (int call = 0; call < 23; call++) {
            house.kind(-1);
            callDone(house, call);
            CHECK.due("why() after call " + call + " that was done", house.why(), 0);
        }
    }

    private static void callDone(ColumnHouse house, int call) {
        switch (call) {
            case 0: house.make(4, 4, 2); break;
            case 1: house.lay(0, 5); break;
            case 2: house.places(0); break;
            case 3: house.kind(0); break;
            case 4: house.tag(2); break;
            case 5: house.load(2); break;
            case 6: house.put(0, 0, 4, 0, 0); break;
            case 7: house.putBoxed(0, 0, 4, 0, 0); break;
            case 8: house.putThing(3, 0, 2); break;
            case 9: house.number(0, 0, 4); break;
            case 10: house.point(0, 0, 7); break;
            case 11: house.what(0, 0); break;
            case 12: house.take(3, 0, 6); break;
            case 13: house.copy(0, 4); break;
            case 14: house.gather(0, 0, 4); break;
            case 15: house.scatter(0, 0, 4); break;
            case 16: house.merge(0, 4, 1); break;
            case 17: house.sort(0); break;
            case 18: house.turn(3, 1); break;
            case 19: house.sum(0); break;
            case 20: house.total(0); break;
            case 21: house.find(0, 0, 4, 0, 9); break;
            default: house.alike(0, 1); break;
        }
    }
}
