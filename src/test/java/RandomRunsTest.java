/** Runs that are drawn by a fixed rule, of the 512 calls that an object is used for; the model answers them too. */
public final class RandomRunsTest {
    private static final int RUNS = 4000;
    private static final int MERGE = 16;
    /** After each call there is one of why(); what is left of 512 looks at the house at the end. */
    private static final int CALLS = 200;
    private static final int LOOKS = 112;
    /**
     * How the parameters of each call but why() are drawn: c column, k kind, n size or tag, i place, s sort, a b value,
     * t turn.
     */
    private static final String[] DRAWS = {"ckn", "cc", "c", "c", "c", "c", "cisab", "cisab", "cic", "cis", "cis",
        "ci", "cic", "cc", "cxc", "cxc", "ccc", "c", "ct", "c", "c", "cisab", "cc"};
    private static final int[] EDGES = {0, 1, -1, 2, 12, 24, 25, 127, 128, 255, 32767, 32768, 65535, 65536, 1 << 24,
        (1 << 24) + 1, (1 << 24) + 3, Integer.MIN_VALUE, Integer.MAX_VALUE};

    private static long seed = 20261116;
    private static int size = 0;
    private static int spread = 1;
    /** Runs of values alone, small ones, in rows that can be merged: there most calls are done. */
    private static boolean plain = false;

    public static void main(String[] args) {
        Check check = new Check();
        int[][] reached = new int[DRAWS.length][7];
        for (int run = 0; run < RUNS; run++) {
            plain = run % 3 == 0;
            size = draw(4) == 0 ? draw(plain ? 13 : 25) : draw(7);
            spread = 3 + draw(10);
            run(check, run, reached);
        }
        for (int n = 0; n < DRAWS.length; n++) {
            check.due(name(n) + " was done", reached[n][0] > 100, true);
        }
        // Where a reason can't be told at a call, nothing may have reached it, and all the others must be reached.
        for (int n = 0; n < DRAWS.length; n++) {
            for (int reason = 1; reason <= 6; reason++) {
                check.due(name(n) + " refused by " + reason, reached[n][reason] > 0,
                    Calls.reasons(name(n)).indexOf('0' + reason) >= 0);
            }
        }
        check.end("RandomRunsTest");
    }

    private static void run(Check check, int run, int[][] reached) {
        ColumnHouse house = new ColumnHouse();
        Model model = new Model();
        for (int step = 0; step < CALLS; step++) {
            int n = step < 20 || draw(6) == 0 ? 0 : draw(4) == 0 ? 6 + draw(plain ? 2 : 3)
                : plain && draw(4) == 0 ? MERGE : draw(DRAWS.length);
            int[] p = new int[DRAWS[n].length()];
            for (int k = 0; k < p.length; k++) {
                p[k] = parameter(DRAWS[n].charAt(k));
            }
            String call = "run " + run + ", call " + step + ": " + name(n) + java.util.Arrays.toString(p);
            check.due(call, Calls.answer(house, name(n), p), model.call(name(n), p));
            int why = house.why();
            check.due("why() after " + call, why, model.why());
            reached[n][why]++;
        }
        look(check, run, house, model);
    }

    /** Looks at what drawn places of the house have, by the kinds that the model says are there. */
    private static void look(Check check, int run, ColumnHouse house, Model model) {
        for (int looks = 0; looks < LOOKS; looks++) {
            int c = draw(Math.min(12, spread));
            int i = draw(Math.max(size, 1));
            long kind = (Long) model.call("kind", c);
            String name = kind < 0 || kind > 7 ? "what" : kind < 6 ? "number" : "point";
            int[] p = name.equals("what") ? new int[] {c, i} : new int[] {c, i, (int) kind};
            check.due("run " + run + ", at its end: " + name + java.util.Arrays.toString(p),
                Calls.answer(house, name, p), model.call(name, p));
        }
    }

    private static String name(int n) {
        return Calls.NAMES.get(n);
    }

    private static int draw(int bound) {
        seed = seed * 6364136223846793005L + 1442695040888963407L;
        return (int) Long.remainderUnsigned(seed >>> 33, bound);
    }

    private static int parameter(char what) {
        if (draw(60) == 0) {
            return EDGES[draw(EDGES.length)];
        }
        switch (what) {
            case 'c': return draw(Math.min(12, spread));
            case 'x': return draw(Math.min(12, spread));
            case 'k': return plain ? draw(8) : draw(3) == 0 ? draw(8) : draw(5) == 0 ? 4 : draw(15);
            case 'n': return !plain && draw(5) == 0 ? draw(25) : draw(plain ? 3 : 6) == 0 ? 2 * size : size;
            case 'i': return draw(15) == 0 ? draw(26) - 1 : draw(Math.max(size, 1));
            case 's': return draw(3) == 0 ? 1 + draw(3) : draw(8);
            case 'a': return draw(8) == 0 ? EDGES[draw(EDGES.length)] : draw(8) == 0 ? -1 : 0;
            case 'b': return plain && draw(2) == 0 ? 8 * draw(4) : draw(6) == 0 ? EDGES[draw(EDGES.length)]
                : draw(draw(2) == 0 ? Math.max(size, 1) : 60);
            default: return draw(60) - 30;
        }
    }
}
