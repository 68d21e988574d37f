import java.io.File;
import java.io.IOException;
import java.lang.reflect.Method;
import java.lang.reflect.Modifier;
import java.nio.file.Files;
import java.nio.file.Path;
import java.util.ArrayList;
import java.util.Arrays;
import java.util.List;
import java.util.Map;
import java.util.Set;
import java.util.TreeMap;
import java.util.TreeSet;
import java.util.regex.Matcher;
import java.util.regex.Pattern;

/** What README.md shows of calls, answers, sorts, kinds, reasons and tests is what there is. */
public final class ReadmeTest {
    private static final Pattern BLOCK = Pattern.compile("```java\n(.*?)```", Pattern.DOTALL);
    private static final Pattern SENTENCE =
        Pattern.compile("SENTENCES\\.test\\(\"(.*?)\", \"\"\"\n(.*?)\"\"\"\\);\n", Pattern.DOTALL);
    /** A call with its answer, and what more is said of it behind a colon. */
    private static final Pattern CALL = Pattern.compile("house\\.(\\w+)\\((.*?)\\); +// (\\S+?)(: .*)?");
    /** What is said of a call may end with what a row of values has after it. */
    private static final Pattern HAS = Pattern.compile(".*: column (\\d+) has ([-. \\d]+)");
    private static final Check CHECK = new Check();
    private static final Sentences SENTENCES = new Sentences();

    public static void main(String[] args) throws IOException {
        String readme = Files.readString(Path.of("README.md"));
        examples(readme);
        sorts(readme);
        kinds(readme);
        calls(readme);
        tests(readme);
        CHECK.end("ReadmeTest");
        SENTENCES.end("ReadmeTest");
    }

    /** Each block of code is a run on a house of its own, or the one test of a sentence; no line is left out. */
    private static void examples(String readme) {
        Set<String> shown = new TreeSet<>();
        int sentences = 0;
        Matcher block = BLOCK.matcher(readme);
        while (block.find()) {
            Matcher sentence = SENTENCE.matcher(block.group(1));
            if (sentence.matches()) {
                SENTENCES.test(sentence.group(1), sentence.group(2));
                sentences++;
            } else {
                run(block.group(1).split("\n"), shown);
            }
        }
        CHECK.due("tests of sentences that README.md shows", sentences, 1);
        CHECK.due("calls that README.md shows", shown, new TreeSet<>(Calls.NAMES));
    }

    private static void run(String[] lines, Set<String> shown) {
        CHECK.due("a run's first line", lines[0], "ColumnHouse house = new ColumnHouse();");
        ColumnHouse house = new ColumnHouse();
        for (int k = 1; k < lines.length; k++) {
            Matcher call = CALL.matcher(lines[k]);
            boolean isCall = call.matches();
            CHECK.due("a call with its answer: " + lines[k], isCall, true);
            if (isCall) {
                shown.add(call.group(1));
                CHECK.due("README.md: " + lines[k], answer(house, call).toString(), call.group(3));
                has(lines, k);
            }
        }
    }

    private static Object answer(ColumnHouse house, Matcher call) {
        return Calls.answer(house, call.group(1), numbers(call.group(2)));
    }

    /** Looks at the row on another house after the same calls, since a look changes WHY. */
    private static void has(String[] lines, int last) {
        Matcher has = HAS.matcher(lines[last]);
        if (!has.matches()) {
            return;
        }
        ColumnHouse house = new ColumnHouse();
        for (int k = 1; k <= last; k++) {
            Matcher call = CALL.matcher(lines[k]);
            if (call.matches()) {
                answer(house, call);
            }
        }
        int c = Integer.parseInt(has.group(1));
        CHECK.due("README.md: " + lines[last], Check.row(house, c), house.kind(c) + ": " + has.group(2));
    }

    private static int[] numbers(String text) {
        return Arrays.stream(text.split("[, ]+")).filter(word -> !word.isEmpty()).mapToInt(Integer::parseInt).toArray();
    }

    /** The cells of each line of the table whose first line begins with these words. */
    private static List<String[]> table(String readme, String head) {
        List<String[]> lines = new ArrayList<>();
        boolean inside = false;
        for (String line : readme.split("\n")) {
            boolean isHead = line.startsWith(head);
            inside = isHead || inside && line.startsWith("|");
            if (inside && !isHead && !line.startsWith("|---")) {
                String[] cells = line.split("\\|", -1);
                lines.add(Arrays.stream(cells, 1, cells.length - 1).map(String::trim).toArray(String[]::new));
            }
        }
        return lines;
    }

    private static boolean has(int[] numbers, int number) {
        return Arrays.stream(numbers).anyMatch(n -> n == number);
    }

    private static void sorts(String readme) {
        List<String[]> lines = table(readme, "| number | sort |");
        CHECK.due("sorts", lines.size(), 8);
        for (int from = 0; from < lines.size(); from++) {
            CHECK.due("a sort's number", lines.get(from)[0], "" + from);
            for (int to = 0; to < 8; to++) {
                ColumnHouse house = new ColumnHouse();
                house.make(0, to, 1);
                boolean goes = from == to || has(numbers(lines.get(from)[3]), to);
                CHECK.due("sort " + from + " into " + to, house.put(0, 0, from, 0, 1), goes ? 1 : 0);
            }
        }
    }

    private static void kinds(String readme) {
        List<String[]> lines = table(readme, "| kind | thing |");
        CHECK.due("kinds", lines.size(), 7);
        for (int k = 0; k < lines.size(); k++) {
            int kind = 8 + k;
            CHECK.due("a kind's number", lines.get(k)[0], "" + kind);
            for (int thing = 0; thing < 15; thing++) {
                ColumnHouse house = new ColumnHouse();
                house.make(0, kind, 1);
                house.make(1, thing, 1);
                boolean fits = has(numbers(lines.get(k)[2]), thing);
                CHECK.due("kind " + thing + " into " + kind, house.putThing(0, 0, 1), fits ? 1 : 0);
            }
        }
    }

    private static void calls(String readme) {
        Map<String, Integer> face = new TreeMap<>();
        for (Method method : ColumnHouse.class.getDeclaredMethods()) {
            if (Modifier.isPublic(method.getModifiers())) {
                face.put(method.getName(), method.getParameterCount());
            }
        }
        Map<String, Integer> shown = new TreeMap<>();
        for (String[] cells : table(readme, "| call |")) {
            String name = cells[0].substring(1, cells[0].indexOf('('));
            String parameters = cells[0].substring(cells[0].indexOf('(') + 1, cells[0].indexOf(')'));
            shown.put(name, parameters.isEmpty() ? 0 : parameters.split(", ").length);
            StringBuilder reasons = new StringBuilder();
            cells[3].chars().filter(Character::isDigit).distinct().forEach(reasons::appendCodePoint);
            CHECK.due("reasons of " + name, reasons.toString(), Calls.reasons(name));
        }
        CHECK.due("the calls and how many parameters they have", shown, face);
    }

    private static void tests(String readme) {
        Set<String> shown = new TreeSet<>();
        for (String[] cells : table(readme, "| test |")) {
            shown.add(cells[0].replace("`", "") + ".java");
        }
        String[] files = new File("src/test/java").list((folder, name) -> name.endsWith("Test.java"));
        CHECK.due("the tests", shown, new TreeSet<>(List.of(files)));
    }
}
