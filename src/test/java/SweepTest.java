import java.util.Arrays;

/**
 * Every call with every mix of columns, places and sorts out of small sets, right and wrong ones, each on a house of
 * its own: the model says what is due, and a refused call leaves the house as it was.
 */
public final class SweepTest {
    private static final Check CHECK = new Check();
    private static final int[] COLUMNS = {-1, 0, 1, 2, 3, 4, 5, 6, 7, 8, 9, 10, 11, 12};
    private static final int[] PLACES = {Integer.MIN_VALUE, -1, 0, 1, 2, 3, 24, Integer.MAX_VALUE};
    private static final int[] SORTS = {Integer.MIN_VALUE, -1, 0, 1, 2, 3, 4, 5, 6, 7, 8, Integer.MAX_VALUE};
    private static final int[] KINDS = {-1, 0, 1, 2, 3, 4, 5, 6, 7, 8, 9, 10, 11, 12, 13, 14, 15};
    private static final int[] SIZES = {Integer.MIN_VALUE, -1, 0, 1, 24, 25, Integer.MAX_VALUE};
    private static final int[] STEPS = {Integer.MIN_VALUE, -3, -2, -1, 0, 1, 2, 3, Integer.MAX_VALUE};
    private static final int[] HIGH = {0, -1};
    private static final int[] LOW = {0, 1, 8, -1};

    /** What the columns of three houses hold: make, put and putThing in order, a line for each call. */
    private static final String[] HOUSES = {"""
        make 1 12 5
        make 2 4 2
        put 2 0 4 0 1
        make 3 1 2
        put 3 1 1 0 1
        make 4 5 2
        put 4 0 5 1 1
        make 5 0 2
        put 5 0 0 0 1
        make 6 7 4
        put 6 0 7 0 9
        make 8 14 6
        make 7 8 2
        putThing 7 0 8
        putThing 7 1 1
        make 8 9 2
        make 9 4 3
        put 9 1 4 0 5
        put 9 2 4 -1 -1
        make 10 10 2
        putThing 10 0 2
        make 11 2 0
        """, """
        make 0 14 7
        make 1 6 2
        put 1 0 6 0 8
        put 1 1 6 -1 -1
        make 2 3 2
        put 2 0 3 0 1
        make 3 8 2
        putThing 3 0 0
        make 4 9 2
        putThing 4 1 0
        make 5 11 2
        putThing 5 1 4
        make 6 2 2
        put 6 0 2 0 1
        put 6 1 2 0 1
        lay 6 7
        make 8 6 4
        make 9 4 4
        make 10 8 0
        """, """
        make 0 0 0
        make 1 0 2
        put 1 1 0 0 1
        make 2 0 2
        put 2 0 0 0 1
        make 3 1 0
        make 4 7 2
        put 4 0 7 0 8
        put 4 1 7 -1 -9
        make 5 5 2
        put 5 1 5 0 1
        make 6 1 24
        put 6 23 1 0 24
        make 7 10 0
        make 8 4 24
        put 8 0 4 0 23
        make 9 9 24
        make 10 4 4
        make 11 0 4
        """};

    public static void main(String[] args) {
        sweep("make", COLUMNS, KINDS, SIZES);
        sweep("lay", COLUMNS, COLUMNS);
        for (String name : new String[] {"places", "kind", "tag", "load", "sort", "sum", "total"}) {
            sweep(name, COLUMNS);
        }
        sweep("put", COLUMNS, PLACES, SORTS, HIGH, LOW);
        sweep("putBoxed", COLUMNS, PLACES, SORTS, HIGH, LOW);
        sweep("putThing", COLUMNS, PLACES, COLUMNS);
        sweep("number", COLUMNS, PLACES, SORTS);
        sweep("point", COLUMNS, PLACES, SORTS);
        sweep("what", COLUMNS, PLACES);
        sweep("take", COLUMNS, PLACES, COLUMNS);
        sweep("copy", COLUMNS, COLUMNS);
        sweep("gather", COLUMNS, COLUMNS, COLUMNS);
        sweep("scatter", COLUMNS, COLUMNS, COLUMNS);
        sweep("merge", COLUMNS, COLUMNS, COLUMNS);
        sweep("turn", COLUMNS, STEPS);
        sweep("find", COLUMNS, PLACES, SORTS, HIGH, LOW);
        sweep("alike", COLUMNS, COLUMNS);
        CHECK.end("SweepTest");
    }

    private static void sweep(String name, int[]... sets) {
        for (int house = 0; house < HOUSES.length; house++) {
            int[] chosen = new int[sets.length];
            do {
                int[] p = new int[sets.length];
                for (int k = 0; k < p.length; k++) {
                    p[k] = sets[k][chosen[k]];
                }
                call(house, name, p);
            } while (step(chosen, sets));
        }
    }

    /** The next mix; false if that was the last. */
    private static boolean step(int[] chosen, int[][] sets) {
        for (int k = 0; k < chosen.length; k++) {
            chosen[k]++;
            if (chosen[k] < sets[k].length) {
                return true;
            }
            chosen[k] = 0;
        }
        return false;
    }

    private static void call(int number, String name, int[] p) {
        ColumnHouse house = new ColumnHouse();
        Model model = new Model();
        for (String line : HOUSES[number].strip().split("\n")) {
            String[] words = line.split(" ");
            int[] q = Arrays.stream(words).skip(1).mapToInt(Integer::parseInt).toArray();
            Calls.answer(house, words[0], q);
            model.call(words[0], q);
        }
        String call = "house " + number + ": " + name + Arrays.toString(p);
        CHECK.due(call, Calls.answer(house, name, p), model.call(name, p));
        CHECK.due("why() after " + call, house.why(), model.why());
        look(house, model, call);
    }

    /** A refused call changes nothing in the model, so the house must have what the model has in any case. */
    private static void look(ColumnHouse house, Model model, String call) {
        for (int c = 0; c < 12; c++) {
            int kind = ((Long) model.call("kind", c)).intValue();
            int places = ((Long) model.call("places", c)).intValue();
            same(house, model, call, "kind", c);
            same(house, model, call, kind >= 12 ? "tag" : "places", c);
            for (int i = 0; i < places; i++) {
                if (kind < 8) {
                    same(house, model, call, kind < 6 ? "number" : "point", c, i, kind);
                } else {
                    same(house, model, call, "what", c, i);
                }
            }
        }
    }

    private static void same(ColumnHouse house, Model model, String call, String name, int... p) {
        CHECK.due(name + Arrays.toString(p) + " after " + call, Calls.answer(house, name, p), model.call(name, p));
    }
}
