import java.io.IOException;
import java.lang.reflect.Method;
import java.lang.reflect.Modifier;
import java.nio.file.Files;
import java.nio.file.Path;
import java.util.List;
import java.util.Set;
import java.util.TreeSet;
import java.util.regex.Matcher;
import java.util.regex.Pattern;
import java.util.stream.Collectors;
import java.util.stream.Stream;

/** Whether what README.md says is so; run from the project's folder. */
public final class ReadmeTest {
    private static final Pattern TEXT = Pattern.compile("String text = \"([^\"]*)\";");
    private static final Pattern CALL = Pattern.compile("(?m)^x\\.(\\w+)\\(([-\\d, ]*)\\); +// (-?\\d+|[A-Z]+): ");

    public static void main(String[] args) throws IOException {
        String readme = Files.readString(Path.of("README.md"));
        exampleAnswersSo(readme);
        clausesHaveTheirBounds(readme);
        callsAreNamed(readme);
        testsAreNamed(readme);
        Due.end("ReadmeTest");
    }

    private static void exampleAnswersSo(String readme) {
        Matcher text = TEXT.matcher(readme);
        Due.due("the example has a text", text.find() ? 1 : 0, 1);
        LullabyDebts x = new LullabyDebts();
        Due.feedAll(x, text.group(1));
        Matcher call = CALL.matcher(readme);
        int calls = 0;
        while (call.find()) {
            calls++;
            Due.due("README.md: " + call.group(), answer(x, call.group(1), call.group(2)), told(call.group(3)));
        }
        Due.due("calls of the example with an answer", calls, readme.split("(?m)^x\\.", -1).length - 1);
        Due.due("there are such", calls > 0 ? 1 : 0, 1);
    }

    private static int answer(LullabyDebts x, String name, String args) {
        int[] numbers = Stream.of(args.split(", ")).filter(a -> !a.isEmpty()).mapToInt(Integer::parseInt).toArray();
        for (Method m : LullabyDebts.class.getDeclaredMethods()) {
            if (m.getName().equals(name) && m.getParameterCount() == numbers.length) {
                return invoke(m, x, numbers);
            }
        }
        throw new IllegalStateException("README.md calls " + name + "(" + args + "), which there is not");
    }

    private static int invoke(Method m, LullabyDebts x, int[] numbers) {
        Object[] boxed = new Object[numbers.length];
        for (int i = 0; i < numbers.length; i++) {
            boxed[i] = numbers[i];
        }
        try {
            return (Integer) m.invoke(x, boxed);
        } catch (ReflectiveOperationException e) {
            throw new IllegalStateException(e);
        }
    }

    private static int told(String answer) {
        switch (answer) {
            case "NONE": return Due.NONE;
            case "UNKNOWN": return Due.UNKNOWN;
            case "OUTSIDE": return Due.OUTSIDE;
            case "NOT": return Due.NOT;
            case "FULL": return Due.FULL;
            default: return Integer.parseInt(answer);
        }
    }

    /** A text on each clause's bounds, as the table has them, is read; one above or below has fault 2. */
    private static void clausesHaveTheirBounds(String readme) {
        Matcher clause = Pattern.compile("(?m)^\\| `([rsc])(?: [A-Z])+` \\|.*\\| ([^|]*) \\|$").matcher(readme);
        int clauses = 0;
        while (clause.find()) {
            clauses++;
            List<int[]> bounds = Stream.of(clause.group(2).split("; ")).map(ReadmeTest::bound).collect(Collectors.toList());
            for (int i = 0; i < bounds.size(); i++) {
                for (int side = 0; side < 2; side++) {
                    int on = bounds.get(i)[side];
                    Due.due(clause.group() + " at " + on, read(clause.group(1), bounds, i, on) >= 0 ? 1 : 0, 1);
                    int out = on + (side == 0 ? -1 : 1);
                    if (out >= 0) {
                        Due.due(clause.group() + " at " + out, read(clause.group(1), bounds, i, out), -12);
                    }
                }
            }
        }
        Due.due("clauses in the table", clauses, 3);
    }

    /** "0 .. N less 1" is held against a row of 20 houses. */
    private static int[] bound(String range) {
        String[] ends = range.replace("N less 1", "19").split(" \\.\\. ");
        return new int[] {Integer.parseInt(ends[0]), Integer.parseInt(ends[1])};
    }

    private static int read(String word, List<int[]> bounds, int which, int value) {
        StringBuilder text = new StringBuilder(word.equals("r") ? "" : "r20 30;").append(word);
        for (int i = 0; i < bounds.size(); i++) {
            text.append(' ').append(i == which ? value : bounds.get(i)[1]);
        }
        LullabyDebts x = new LullabyDebts();
        Due.feedAll(x, text.append(';').toString());
        return x.row();
    }

    private static void callsAreNamed(String readme) {
        for (Method m : LullabyDebts.class.getDeclaredMethods()) {
            if (Modifier.isPublic(m.getModifiers())) {
                Due.due("README.md names " + m.getName(), readme.contains("`" + m.getName() + "`") ? 1 : 0, 1);
            }
        }
    }

    private static void testsAreNamed(String readme) throws IOException {
        Set<String> there = new TreeSet<>();
        try (Stream<Path> files = Files.list(Path.of("src/test/java"))) {
            files.map(f -> f.getFileName().toString()).filter(f -> f.endsWith("Test.java"))
                .forEach(f -> there.add(f.substring(0, f.length() - ".java".length())));
        }
        Set<String> named = new TreeSet<>();
        Matcher row = Pattern.compile("(?m)^\\| `(\\w+Test)` \\|").matcher(readme);
        while (row.find()) {
            named.add(row.group(1));
        }
        Due.due("tests that README.md names " + named + ", and that there are " + there, named.equals(there) ? 1 : 0, 1);
    }
}
