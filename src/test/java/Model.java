import java.lang.reflect.Array;
import java.util.ArrayList;
import java.util.Arrays;
import java.util.Collections;
import java.util.Comparator;
import java.util.List;

/**
 * The document once more, built on Java's own arrays, boxes and classes: what goes into an array of
 * another sort, and what fits an array of things, is what java.lang.reflect.Array says of it.
 */
final class Model {
    static class Card {
        final int tag;

        Card(int tag) {
            this.tag = tag;
        }
    }

    static final class Pass extends Card {
        Pass(int tag) {
            super(tag);
        }
    }

    static final class Badge extends Card {
        Badge(int tag) {
            super(tag);
        }
    }

    /** What a refused call ends with. */
    static final class Refused extends RuntimeException {
        private static final long serialVersionUID = 1L;
        final int reason;

        Refused(int reason) {
            super(null, null, false, false);
            this.reason = reason;
        }
    }

    private static final List<Class<?>> KINDS = List.of(boolean[].class, byte[].class, char[].class, short[].class,
        int[].class, long[].class, float[].class, double[].class, Card[].class, Badge[].class, int[][].class,
        Card[][].class, Card.class, Pass.class, Badge.class);

    private final Object[] columns = new Object[12];
    private int why = 0;

    /** The answer of any call but why(), a Long, or a Double for point and total. */
    Object call(String name, int... p) {
        why = 0;
        try {
            return answer(name, p);
        } catch (Refused refused) {
            why = refused.reason;
            return name.equals("point") || name.equals("total") ? (Object) 0.0 : (Object) 0L;
        }
    }

    int why() {
        return why;
    }

    private Object answer(String name, int[] p) {
        switch (name) {
            case "make": return (long) make(p[0], p[1], p[2]);
            case "lay": return (long) lay(p[0], p[1]);
            case "places": return (long) Array.getLength(rows(p[0])[0]);
            case "kind": return (long) kindOf(column(p[0]));
            case "tag": return (long) card(p[0]).tag;
            case "load": return (long) load(card(p[0]));
            case "put":
            case "putBoxed": return (long) put(p[0], p[1], p[2], p[3], p[4]);
            case "putThing": return (long) putThing(p[0], p[1], p[2]);
            case "number": return number(p[0], p[1], p[2]);
            case "point": return point(p[0], p[1], p[2]);
            case "what": return (long) what(p[0], p[1]);
            case "take": return (long) take(p[0], p[1], p[2]);
            case "copy": return (long) copy(p[0], p[1]);
            case "gather": return (long) gather(p[0], p[1], p[2]);
            case "scatter": return (long) scatter(p[0], p[1], p[2]);
            case "merge": return (long) merge(p[0], p[1], p[2]);
            case "sort": return (long) sort(p[0]);
            case "turn": return (long) turn(p[0], p[1]);
            case "sum": return sum(p[0]);
            case "total": return total(p[0]);
            case "find": return (long) find(p[0], p[1], p[2], p[3], p[4]);
            case "alike": return (long) alike(p[0], p[1]);
            default: throw new IllegalArgumentException(name);
        }
    }

    private static void need(boolean holds, int reason) {
        if (!holds) {
            throw new Refused(reason);
        }
    }

    private Object column(int c) {
        need(c >= 0 && c <= 11, 1);
        return columns[c];
    }

    /** The rows in all these columns; each reason is asked of all of them before the next one. */
    private Object[] rows(int... cs) {
        Object[] rows = Arrays.stream(cs).mapToObj(this::column).toArray();
        for (Object row : rows) {
            need(row != null, 2);
        }
        for (Object row : rows) {
            need(row.getClass().isArray(), 3);
        }
        return rows;
    }

    private static int kindOf(Object thing) {
        return thing == null ? -1 : KINDS.indexOf(thing.getClass());
    }

    private static boolean isPlain(Object row) {
        return row.getClass().getComponentType().isPrimitive();
    }

    private static void place(Object row, int i) {
        need(i >= 0 && i < Array.getLength(row), 4);
    }

    private static void set(Object row, int i, Object what) {
        need(what != null || !isPlain(row), 5);
        // A boxed number is an object as well, but no row of things is of such a class.
        try {
            Array.set(row, i, what);
        } catch (IllegalArgumentException doesNotGo) {
            throw new Refused(5);
        }
    }

    private static Object copyOf(Object row) {
        int n = Array.getLength(row);
        Object copy = Array.newInstance(row.getClass().getComponentType(), n);
        System.arraycopy(row, 0, copy, 0, n);
        return copy;
    }

    private static List<Object> listOf(Object row) {
        List<Object> list = new ArrayList<>();
        for (int i = 0; i < Array.getLength(row); i++) {
            list.add(Array.get(row, i));
        }
        return list;
    }

    private static Object told(int sort, int a, int b) {
        long v = a * 4294967296L + Integer.toUnsignedLong(b);
        switch (sort) {
            case 0: return Math.floorMod(v, 2L) == 1;
            case 1: return (byte) v;
            case 2: return (char) v;
            case 3: return (short) v;
            case 4: return (int) v;
            case 5: return v;
            case 6: return Float.valueOf(Long.valueOf(v).floatValue() * 0.125f);
            default: return Double.valueOf(Long.valueOf(v).doubleValue() * 0.125);
        }
    }

    private int make(int c, int k, int n) {
        column(c);
        need(k >= 0 && k <= 14, 1);
        if (k >= 12) {
            columns[c] = k == 12 ? new Card(n) : k == 13 ? new Pass(n) : new Badge(n);
        } else {
            need(n >= 0 && n <= 24, 1);
            columns[c] = Array.newInstance(KINDS.get(k).getComponentType(), n);
        }
        return 1;
    }

    private int lay(int c, int d) {
        column(d);
        columns[d] = column(c);
        return columns[d] == null ? 0 : 1;
    }

    private Card card(int c) {
        need(column(c) instanceof Card, 5);
        return (Card) columns[c];
    }

    private static int load(Card card) {
        return card instanceof Badge ? card.tag + card.tag + 1 : card.tag;
    }

    private int put(int c, int i, int sort, int a, int b) {
        need(sort >= 0 && sort <= 7, 1);
        Object row = rows(c)[0];
        place(row, i);
        set(row, i, told(sort, a, b));
        return 1;
    }

    private int putThing(int c, int i, int d) {
        Object thing = column(d);
        Object row = rows(c)[0];
        place(row, i);
        set(row, i, thing);
        return thing == null ? 0 : 1;
    }

    private long number(int c, int i, int sort) {
        need(sort >= 0 && sort <= 5, 1);
        Object row = rows(c)[0];
        place(row, i);
        try {
            switch (sort) {
                case 0: return Array.getBoolean(row, i) ? 1 : 0;
                case 1: return Array.getByte(row, i);
                case 2: return Array.getChar(row, i);
                case 3: return Array.getShort(row, i);
                case 4: return Array.getInt(row, i);
                default: return Array.getLong(row, i);
            }
        } catch (IllegalArgumentException doesNotGo) {
            throw new Refused(5);
        }
    }

    private double point(int c, int i, int sort) {
        need(sort == 6 || sort == 7, 1);
        Object row = rows(c)[0];
        place(row, i);
        try {
            return sort == 6 ? Array.getFloat(row, i) : Array.getDouble(row, i);
        } catch (IllegalArgumentException doesNotGo) {
            throw new Refused(5);
        }
    }

    private int what(int c, int i) {
        Object row = rows(c)[0];
        place(row, i);
        return isPlain(row) ? kindOf(row) : kindOf(Array.get(row, i));
    }

    private int take(int c, int i, int d) {
        column(d);
        Object row = rows(c)[0];
        need(!isPlain(row), 6);
        place(row, i);
        columns[d] = Array.get(row, i);
        return columns[d] == null ? 0 : 1;
    }

    private static int give(Object staged, Object to, int answer) {
        System.arraycopy(staged, 0, to, 0, Array.getLength(to));
        return answer;
    }

    private int copy(int c, int d) {
        Object[] rows = rows(c, d);
        int n = Array.getLength(rows[1]);
        need(Array.getLength(rows[0]) == n, 4);
        Object staged = copyOf(rows[1]);
        for (int k = 0; k < n; k++) {
            set(staged, k, Array.get(rows[0], k));
        }
        return give(staged, rows[1], n);
    }

    private static void index(Object row) {
        int kind = kindOf(row);
        need(kind >= 1 && kind <= 4, 6);
    }

    private int gather(int c, int x, int d) {
        Object[] rows = rows(c, x, d);
        index(rows[1]);
        int n = Array.getLength(rows[2]);
        need(Array.getLength(rows[1]) == n, 4);
        Object staged = copyOf(rows[2]);
        for (int k = 0; k < n; k++) {
            int source = Array.getInt(rows[1], k);
            place(rows[0], source);
            set(staged, k, Array.get(rows[0], source));
        }
        return give(staged, rows[2], n);
    }

    private int scatter(int c, int x, int d) {
        Object[] rows = rows(c, x, d);
        index(rows[1]);
        int n = Array.getLength(rows[1]);
        need(Array.getLength(rows[0]) == n, 4);
        Object staged = copyOf(rows[2]);
        for (int k = 0; k < n; k++) {
            int target = Array.getInt(rows[1], k);
            place(staged, target);
            set(staged, target, Array.get(rows[0], k));
        }
        return give(staged, rows[2], n);
    }

    private static double asDouble(Object value) {
        return value instanceof Character ? (Character) value : ((Number) value).doubleValue();
    }

    private static long asLong(Object value) {
        return value instanceof Character ? (Character) value : ((Number) value).longValue();
    }

    private static boolean isPoint(Object value) {
        return value instanceof Float || value instanceof Double;
    }

    /** Below 0: LESS; 0: LIKE; of two values, both FLAGS or neither. */
    private static int compare(Object one, Object other) {
        if (one instanceof Boolean) {
            return Boolean.compare((Boolean) one, (Boolean) other);
        }
        if (isPoint(one) || isPoint(other)) {
            double difference = asDouble(one) - asDouble(other);
            return difference < 0 ? -1 : difference > 0 ? 1 : 0;
        }
        return Long.compare(asLong(one), asLong(other));
    }

    private static boolean like(Object one, Object other) {
        return one instanceof Boolean == other instanceof Boolean && compare(one, other) == 0;
    }

    private int merge(int c, int d, int e) {
        Object[] rows = rows(c, d, e);
        for (Object row : rows) {
            need(isPlain(row), 6);
        }
        need(rows[0] instanceof boolean[] == rows[1] instanceof boolean[], 6);
        int n = Array.getLength(rows[2]);
        need(n == Array.getLength(rows[0]) + Array.getLength(rows[1]), 4);
        List<Object> first = listOf(rows[0]);
        List<Object> second = listOf(rows[1]);
        Object staged = copyOf(rows[2]);
        for (int k = 0; k < n; k++) {
            boolean other = first.isEmpty() || !second.isEmpty() && compare(second.get(0), first.get(0)) < 0;
            set(staged, k, (other ? second : first).remove(0));
        }
        return give(staged, rows[2], n);
    }

    private static int rank(Object thing) {
        return thing instanceof Card ? ((Card) thing).tag : Array.getLength(thing);
    }

    private int sort(int c) {
        Object row = rows(c)[0];
        List<Object> before = listOf(row);
        List<Object> after = new ArrayList<>(before);
        Comparator<Object> byRank = Comparator.comparingInt(Model::rank);
        after.sort(isPlain(row) ? Model::compare : Comparator.nullsFirst(byRank));
        int changed = 0;
        for (int k = 0; k < before.size(); k++) {
            Object was = before.get(k);
            Object is = after.get(k);
            changed += (isPlain(row) ? was.equals(is) : was == is) ? 0 : 1;
            Array.set(row, k, is);
        }
        return changed;
    }

    private int turn(int c, int n) {
        Object row = rows(c)[0];
        List<Object> list = listOf(row);
        Collections.rotate(list, n);
        for (int k = 0; k < list.size(); k++) {
            Array.set(row, k, list.get(k));
        }
        return list.size();
    }

    private long sum(int c) {
        Object row = rows(c)[0];
        need(kindOf(row) >= 1 && kindOf(row) <= 5, 6);
        return listOf(row).stream().mapToLong(Model::asLong).sum();
    }

    private double total(int c) {
        Object row = rows(c)[0];
        need(kindOf(row) >= 1 && kindOf(row) <= 7, 6);
        double all = 0;
        for (Object value : listOf(row)) {
            all = all + asDouble(value);
        }
        return all;
    }

    private int find(int c, int i, int sort, int a, int b) {
        need(sort >= 0 && sort <= 7, 1);
        Object row = rows(c)[0];
        need(isPlain(row), 6);
        List<Object> list = listOf(row);
        for (int k = 0; k < list.size(); k++) {
            if (k >= i && like(list.get(k), told(sort, a, b))) {
                return k;
            }
        }
        return -1;
    }

    private int alike(int c, int d) {
        Object[] rows = rows(c, d);
        List<Object> first = listOf(rows[0]);
        List<Object> second = listOf(rows[1]);
        if (first.size() != second.size()) {
            return 0;
        }
        for (int k = 0; k < first.size(); k++) {
            boolean same = isPlain(rows[0]) && isPlain(rows[1])
                ? like(first.get(k), second.get(k)) : first.get(k) == second.get(k);
            if (!same) {
                return 0;
            }
        }
        return 1;
    }
}
