import java.util.ArrayList;
import java.util.Arrays;
import java.util.HashSet;
import java.util.List;
import java.util.Set;

/**
 * Tests of one sentence of the document each, as runs of calls that are written down line by line, each
 * run on a house of its own. What a line may be:
 * <pre>
 * turn 0 -1 = 3          a call that is done, with its answer; and then WHY is 0
 * turn 12 1 ! 1          a call that is refused: it answers 0; and then WHY is the reason
 * turn 0 -1              a call that is done, whatever it answers
 * why = 4                why() itself
 * put 0 2 5 2^53+1       put, putBoxed and find take a, b, or the v that they make
 * places {-1 12..14} ! 1 a line for each of the numbers in braces
 * fill 0 4: 7 -2         column 0 holds a new row of kind 4 of the values that its sort and these v tell
 * things 2 8: 0 - 1      column 2 holds a new row of kind 8 of what these columns hold, - is NOTHING
 * row 0 = 4: 7 -2        the row in column 0: its kind and what its places have
 * keep, kept             all the columns have what they had at keep
 * </pre>
 * In a row a card is told as kind#TAG and a row as kindxlength, which is asked for by way of column 11.
 */
final class Sentences {
    private static final int MOST_CALLS = 512;
    private static final int SPARE = 11;

    private final Check check = new Check();
    private final Set<String> told = new HashSet<>();
    private ColumnHouse house = new ColumnHouse();
    private int calls = 0;
    private String kept = "";

    /** A sentence, in the document's words where it has them, with runs that are not as written if it is broken. */
    void test(String sentence, String... runs) {
        check.due("this is a test of its own: " + sentence, told.add(sentence) && runs.length > 0, true);
        for (String run : runs) {
            house = new ColumnHouse();
            calls = 0;
            for (String line : run.split("\n")) {
                for (String one : spread(line.trim())) {
                    line(sentence, one);
                }
            }
            check.due("more calls than an object is used for: " + sentence, calls <= MOST_CALLS, true);
        }
    }

    /** The run for each of these kinds, which stands in it as KIND. */
    static String[] forKinds(int from, int to, String run) {
        String[] runs = new String[to - from + 1];
        for (int kind = from; kind <= to; kind++) {
            runs[kind - from] = run.replace("KIND", "" + kind);
        }
        return runs;
    }

    void end(String test) {
        System.out.println(test + ": " + told.size() + " sentences");
        check.end(test);
    }

    private static List<String> spread(String line) {
        int from = line.indexOf('{');
        if (from < 0) {
            return List.of(line);
        }
        int to = line.indexOf('}', from);
        List<String> lines = new ArrayList<>();
        for (String item : line.substring(from + 1, to).trim().split(" +")) {
            int dots = item.indexOf("..");
            long low = number(dots < 0 ? item : item.substring(0, dots));
            long high = dots < 0 ? low : number(item.substring(dots + 2));
            for (long n = low; n <= high; n++) {
                lines.addAll(spread(line.substring(0, from) + n + line.substring(to + 1)));
            }
        }
        return lines;
    }

    /** A whole number; powers of 2 may stand in it, and it may be a sum. */
    private static long number(String text) {
        if (text.equals("MIN") || text.equals("MAX")) {
            return text.equals("MIN") ? Integer.MIN_VALUE : Integer.MAX_VALUE;
        }
        long all = 0;
        for (String part : text.split("(?=[+-])")) {
            boolean minus = part.startsWith("-");
            String digits = minus || part.startsWith("+") ? part.substring(1) : part;
            long value = digits.startsWith("2^") ? 1L << Integer.parseInt(digits.substring(2)) : Long.parseLong(digits);
            all += minus ? -value : value;
        }
        return all;
    }

    private void line(String sentence, String line) {
        String where = sentence + "\n    " + line + ":";
        String[] words = line.split("[ :]+");
        switch (words[0]) {
            case "":
                break;
            case "fill":
                fill(where, words);
                break;
            case "things":
                things(where, words);
                break;
            case "row":
                check.due(where, row((int) number(words[1])), line.substring(line.indexOf('=') + 1).trim());
                break;
            case "keep":
                kept = columns();
                break;
            case "kept":
                check.due(where, columns(), kept);
                break;
            default:
                answer(where, words);
                break;
        }
    }

    private void answer(String where, String[] words) {
        int end = 1;
        while (end < words.length && !words[end].equals("=") && !words[end].equals("!")) {
            end++;
        }
        Object got = call(words[0], parameters(words, end));
        boolean refused = end < words.length && words[end].equals("!");
        if (end < words.length) {
            String want = refused ? "0" : words[end + 1];
            check.due(where, got, got instanceof Double ? (Object) Double.valueOf(want) : (Object) number(want));
        }
        if (!words[0].equals("why")) {
            check.due(where + " why()", call("why"), refused ? number(words[end + 1]) : 0L);
        }
    }

    private static int[] parameters(String[] words, int end) {
        boolean split = end == 5 && List.of("put", "putBoxed", "find").contains(words[0]);
        int[] p = new int[split ? 5 : end - 1];
        for (int k = 1; k < end; k++) {
            long value = number(words[k]);
            if (split && k == 4) {
                p[3] = (int) (value >> 32);
                p[4] = (int) value;
            } else {
                p[k - 1] = Math.toIntExact(value);
            }
        }
        return p;
    }

    private void fill(String where, String[] words) {
        made(where, words);
        for (int k = 3; k < words.length; k++) {
            long v = number(words[k]);
            Object got = call("put", (int) number(words[1]), k - 3, (int) number(words[2]), (int) (v >> 32), (int) v);
            check.due(where, got, 1L);
        }
    }

    private void things(String where, String[] words) {
        made(where, words);
        for (int k = 3; k < words.length; k++) {
            if (!words[k].equals("-")) {
                check.due(where, call("putThing", (int) number(words[1]), k - 3, (int) number(words[k])), 1L);
            }
        }
    }

    private void made(String where, String[] words) {
        check.due(where, call("make", (int) number(words[1]), (int) number(words[2]), words.length - 3), 1L);
    }

    private Object call(String name, int... p) {
        calls++;
        return Calls.answer(house, name, p);
    }

    private long ask(String name, int... p) {
        return (Long) call(name, p);
    }

    private String columns() {
        String[] all = new String[SPARE + 1];
        for (int c = 0; c <= SPARE; c++) {
            all[c] = row(c);
        }
        return Arrays.toString(all);
    }

    private String row(int c) {
        int kind = (int) ask("kind", c);
        if (kind < 0) {
            return "NOTHING";
        }
        if (kind >= 12) {
            return kind + "#" + ask("tag", c);
        }
        StringBuilder text = new StringBuilder().append(kind).append(':');
        long places = ask("places", c);
        for (int i = 0; i < places; i++) {
            text.append(' ').append(kind >= 8 ? thing(c, i) : call(kind < 6 ? "number" : "point", c, i, kind));
        }
        return text.toString();
    }

    private String thing(int c, int i) {
        int kind = (int) ask("what", c, i);
        if (kind < 0) {
            return "-";
        }
        if (c == SPARE || ask("kind", SPARE) >= 0) {
            return "" + kind;
        }
        call("take", c, i, SPARE);
        String text = kind + (kind >= 12 ? "#" + ask("tag", SPARE) : "x" + ask("places", SPARE));
        // A row of things as it was made has NOTHING, and that is what column 11 is to have again.
        call("make", SPARE, 8, 1);
        call("take", SPARE, 0, SPARE);
        return text;
    }
}
