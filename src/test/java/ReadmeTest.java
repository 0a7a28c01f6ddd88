import java.io.IOException;
import java.lang.reflect.InvocationTargetException;
import java.lang.reflect.Method;
import java.nio.file.Files;
import java.nio.file.Path;
import java.util.Arrays;
import java.util.List;
import java.util.Map;
import java.util.Set;
import java.util.TreeMap;
import java.util.TreeSet;
import java.util.regex.Matcher;
import java.util.regex.Pattern;

/**
 * README.md (the second argument) against the class: its examples, one object a block; that its table has each call
 * once with as many numbers as it takes, and the findings that it answers; and the numbers of the findings.
 */
public final class ReadmeTest {
    private static final Pattern EXAMPLE = Pattern.compile("x\\.(\\w+)\\((.*?)\\);\\s+// (-?\\d+).*");
    private static final Pattern CALL = Pattern.compile("\\| `(\\w+)\\(([\\w, ]*)\\)` \\|.*\\|([A-Z, ]*)\\|");
    private static final Pattern FINDING = Pattern.compile("\\| (-10000\\d\\d) \\| ([A-Z]+) \\|.*");
    private static final List<String> FINDINGS = List.of("BEYOND", "FULL", "KIND", "NONE", "STATE", "MISSING", "SIZE");
    private static final int RUNS = 400;
    private static final int CALLS_IN_A_RUN = 200;
    private static final int[] NUMBERS = {Integer.MIN_VALUE, -1, 0, 0, 0, 1, 1, 1, 2, 3, 4, 8, 16, 41, 99, 99, Integer.MAX_VALUE};

    private static final Map<String, Method> FACE = new TreeMap<>();

    public static void main(String[] args) throws IOException {
        for (Method m : HedgeHeaps.class.getDeclaredMethods()) {
            if (java.lang.reflect.Modifier.isPublic(m.getModifiers())) {
                FACE.put(m.getName(), m);
            }
        }
        List<String> lines = Files.readAllLines(Path.of(args[1]));
        examples(lines);
        numbersOfFindings(lines);
        calls(lines);
        Check.end("ReadmeTest");
    }

    private static int asked(HedgeHeaps x, String call, Integer... numbers) {
        try {
            return (Integer) FACE.get(call).invoke(x, (Object[]) numbers);
        } catch (IllegalAccessException | InvocationTargetException e) {
            throw new IllegalStateException(call + Arrays.toString(numbers), e);
        }
    }

    private static Integer number(String written) {
        return written.startsWith("'") ? Integer.valueOf(written.charAt(1)) : Integer.decode(written);
    }

    private static void examples(List<String> lines) {
        HedgeHeaps x = new HedgeHeaps();
        int tried = 0;
        for (String line : lines) {
            Matcher example = EXAMPLE.matcher(line);
            if (line.equals("```java")) {
                x = new HedgeHeaps();
            } else if (example.matches()) {
                Integer[] numbers = Arrays.stream(example.group(2).split(", ")).filter(n -> !n.isEmpty())
                    .map(ReadmeTest::number).toArray(Integer[]::new);
                Check.due("README: " + line, asked(x, example.group(1), numbers), Integer.parseInt(example.group(3)));
                tried++;
            } else {
                Check.holds("README: an example without its answer: " + line, !line.startsWith("x."));
            }
        }
        Check.holds("README: has examples", tried > 0);
    }

    private static void numbersOfFindings(List<String> lines) {
        int seen = 0;
        for (String line : lines) {
            Matcher finding = FINDING.matcher(line);
            if (finding.matches()) {
                Check.due("README: " + line, Integer.parseInt(finding.group(1)), Check.BEYOND - FINDINGS.indexOf(finding.group(2)));
                seen++;
            }
        }
        Check.due("README: findings", seen, FINDINGS.size());
    }

    private static void calls(List<String> lines) {
        Map<String, Set<String>> found = findingsOfCalls();
        Set<String> told = new TreeSet<>();
        for (String line : lines) {
            Matcher row = CALL.matcher(line);
            if (row.matches()) {
                String name = row.group(1);
                Check.holds("README: " + name + " stands there once", told.add(name));
                Check.due("README: numbers of " + name, words(row.group(2)).size(), FACE.get(name).getParameterCount());
                Set<String> findings = words(row.group(3));
                Check.holds("README: findings of " + name + " are " + found.get(name), findings.equals(found.get(name)));
            }
        }
        Check.holds("README: all calls: " + told, told.equals(FACE.keySet()));
    }

    private static Set<String> words(String list) {
        Set<String> words = new TreeSet<>(Arrays.asList(list.strip().split(", ")));
        words.remove("");
        return words;
    }

    /** New, filled, at the end of all nights, or with heaps that neither side takes in 60 nights. */
    private static HedgeHeaps made(int how) {
        switch (how) {
            case 0: return new HedgeHeaps();
            case 1: return Whole.filled();
            case 2: return Whole.bare();
            default:
                HedgeHeaps x = new HedgeHeaps();
                x.change(0, 0, Check.HEAP, 99);
                x.change(1, 0, Check.HEAP, 99);
                return x;
        }
    }

    /** By long runs of calls with wild numbers. */
    private static Map<String, Set<String>> findingsOfCalls() {
        Map<String, Set<String>> found = new TreeMap<>();
        FACE.keySet().forEach(name -> found.put(name, new TreeSet<>()));
        String[] names = FACE.keySet().toArray(new String[0]);
        Dice dice = new Dice(48);
        for (int run = 0; run < RUNS; run++) {
            HedgeHeaps x = made(run % 4);
            for (int i = 0; i < CALLS_IN_A_RUN; i++) {
                String name = names[dice.next(names.length)];
                Integer[] numbers = new Integer[FACE.get(name).getParameterCount()];
                for (int k = 0; k < numbers.length; k++) {
                    numbers[k] = NUMBERS[dice.next(NUMBERS.length)];
                }
                int answer = asked(x, name, numbers);
                boolean tellsZ = name.equals("seed") || name.equals("count") && numbers[0] == 6;
                if (!tellsZ && answer <= Check.BEYOND) {
                    found.get(name).add(FINDINGS.get(Check.BEYOND - answer));
                }
            }
        }
        return found;
    }
}
