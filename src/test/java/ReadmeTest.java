import java.lang.reflect.Method;
import java.lang.reflect.Modifier;
import java.nio.file.Files;
import java.nio.file.Path;
import java.util.ArrayList;
import java.util.List;
import java.util.Set;
import java.util.TreeSet;
import java.util.regex.Matcher;
import java.util.regex.Pattern;

/** What README.md tells of the calls is what the document promises and what the class answers. */
public final class ReadmeTest {
    private static final Pattern CALL = Pattern.compile("x\\.(\\w+)\\(([^)]*)\\);");
    private static final Pattern ANSWER = Pattern.compile("// ((?:RainCans\\.\\w+(?: \\+ )?)+|-?\\d+)");
    private static final Pattern ROW =
        Pattern.compile("(?m)^\\| `(\\w+\\([^)]*\\))` \\| ([^|]*)\\| ([^|]*)\\| ([^|]*)\\|$");
    private static final Pattern PROMISE =
        Pattern.compile("(?s)## Promise \\d+: (\\w+)\\s+`(?:int|long) \\w+\\(([^)]*)\\)`:(.*?)(?=\\n## )");
    private static final Pattern REFUSAL = Pattern.compile("\\b(UNKNOWN|OUTSIDE|STATE|NO|FULL|NONE)\\b");

    private final Due due = new Due();
    private final String readme;
    private final String document;

    private ReadmeTest() throws Exception {
        readme = Files.readString(Path.of("README.md"));
        document = Files.readString(Path.of("../shared/DOC.md"));
    }

    public static void main(String[] args) throws Exception {
        ReadmeTest test = new ReadmeTest();
        test.example();
        test.tableOfCalls();
        test.testsAreNamed();
        test.due.end();
    }

    private void example() throws Exception {
        due.about("README, the example");
        Matcher block = Pattern.compile("(?s)```java\\n(.*?)```").matcher(readme);
        due.holds("there is none", block.find());
        RainCans x = null;
        int checked = 0;
        for (String line : block.group(1).split("\n")) {
            if (line.startsWith("RainCans x = new RainCans();")) {
                x = new RainCans();
                continue;
            }
            long answer = run(x, line);
            Matcher told = ANSWER.matcher(line);
            boolean tells = told.find();
            due.holds("no answer is told: " + line, tells);
            if (tells) {
                due.is(line, answer, number(told.group(1)));
                checked++;
            }
        }
        due.holds("too few calls: " + checked, checked >= 20);
    }

    /** The answer of the line's last call. */
    private long run(RainCans x, String line) throws Exception {
        long answer = Long.MIN_VALUE;
        Matcher call = CALL.matcher(line);
        while (call.find()) {
            String[] words = call.group(2).isEmpty() ? new String[0] : call.group(2).split(", ");
            Object[] numbers = new Object[words.length];
            Class<?>[] types = new Class<?>[words.length];
            for (int n = 0; n < words.length; n++) {
                boolean sign = words[n].startsWith("'");
                numbers[n] = sign ? (int) words[n].charAt(1) : Integer.parseInt(words[n]);
                types[n] = int.class;
            }
            answer = ((Number) RainCans.class.getMethod(call.group(1), types).invoke(x, numbers)).longValue();
        }
        return answer;
    }

    private static long number(String told) throws Exception {
        long sum = 0;
        for (String word : told.split(" \\+ ")) {
            boolean constant = word.startsWith("RainCans.");
            sum += constant
                ? RainCans.class.getField(word.substring("RainCans.".length())).getLong(null)
                : Long.parseLong(word);
        }
        return sum;
    }

    private void tableOfCalls() {
        due.about("README, the table of calls");
        List<String> promised = new ArrayList<>();
        List<Set<String>> refusals = new ArrayList<>();
        Matcher promise = PROMISE.matcher(document);
        while (promise.find()) {
            promised.add(promise.group(1) + "(" + promise.group(2).replaceAll("\\b(int|long) ", "") + ")");
            refusals.add(refusals(promise.group(3)));
        }
        int calls = 0;
        for (Method m : RainCans.class.getDeclaredMethods()) {
            calls += Modifier.isPublic(m.getModifiers()) ? 1 : 0;
        }
        due.is("calls that the document promises", promised.size(), calls);
        List<String> told = new ArrayList<>();
        Matcher row = ROW.matcher(readme);
        while (row.find()) {
            int n = promised.indexOf(row.group(1));
            due.holds(row.group(1) + " is not promised", n >= 0);
            if (n >= 0) {
                Set<String> here = refusals(row.group(3) + row.group(4));
                due.holds(row.group(1) + " tells " + here + ", the document " + refusals.get(n), here.equals(refusals.get(n)));
            }
            told.add(row.group(1));
        }
        due.holds("told are " + told + ", promised are " + promised, told.equals(promised));
    }

    private static Set<String> refusals(String text) {
        Set<String> all = new TreeSet<>();
        Matcher m = REFUSAL.matcher(text);
        while (m.find()) {
            all.add(m.group(1));
        }
        return all;
    }

    private void testsAreNamed() throws Exception {
        due.about("README, the tests");
        due.holds("the command is not told", readme.contains("\n    .ci/run\n"));
        due.holds("there is no such command", Files.isExecutable(Path.of(".ci/run")));
        try (var files = Files.list(Path.of("src/test/java"))) {
            for (Path file : (Iterable<Path>) files::iterator) {
                String name = file.getFileName().toString().replace(".java", "");
                due.holds(name + " is not told", !name.endsWith("Test") || readme.contains(name));
            }
        }
    }
}
