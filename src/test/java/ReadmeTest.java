import java.io.IOException;
import java.lang.reflect.InvocationTargetException;
import java.lang.reflect.Method;
import java.nio.file.Files;
import java.nio.file.Path;
import java.util.Set;
import java.util.TreeSet;
import java.util.regex.Matcher;
import java.util.regex.Pattern;
import java.util.stream.Collectors;
import java.util.stream.Stream;

/** What README.md says is so: each call there answers what stands behind it, and its table names each test. */
public final class ReadmeTest {
    private static final Pattern MADE = Pattern.compile("CourtMoorhens x = new CourtMoorhens\\(\\);");
    private static final Pattern FED = Pattern.compile("feed\\(x, \"(.*)\"\\);");
    private static final Pattern ASKED = Pattern.compile("x\\.(\\w+)\\((.*)\\);\\s+// (-?\\d+|\\w+Exception)\\b.*");
    private static final int CALLS = 25;

    private static CourtMoorhens x;

    private static String answer(String name, String numbers) throws ReflectiveOperationException {
        String[] texts = numbers.isEmpty() ? new String[0] : numbers.split(", ");
        Object[] boxed = new Object[texts.length];
        Class<?>[] types = new Class<?>[texts.length];
        for (int i = 0; i < boxed.length; i++) {
            boxed[i] = Integer.decode(texts[i]);
            types[i] = int.class;
        }
        Method method = CourtMoorhens.class.getMethod(name, types);
        try {
            return method.invoke(x, boxed).toString();
        } catch (InvocationTargetException e) {
            return e.getCause().getClass().getSimpleName();
        }
    }

    /** Plays the line, if it is one of an example: whether it was a call with its answer. */
    private static boolean play(Check check, String line) throws ReflectiveOperationException {
        Matcher fed = FED.matcher(line);
        Matcher asked = ASKED.matcher(line);
        if (MADE.matcher(line).matches()) {
            x = new CourtMoorhens();
        } else if (fed.matches()) {
            // The helper there puts blanks behind a text; what stands behind it is not read.
            Check.feed(x, fed.group(1));
        } else if (asked.matches()) {
            String got = answer(asked.group(1), asked.group(2));
            System.out.print(got.equals(asked.group(3)) ? "" : line + " answered " + got + "\n");
            check.same(line, got.equals(asked.group(3)) ? 1 : 0, 1);
            return true;
        }
        return false;
    }

    private static Set<String> testsThere() throws IOException {
        try (Stream<Path> files = Files.list(Path.of("src/test/java"))) {
            return files.map(file -> file.getFileName().toString()).filter(name -> name.endsWith("Test.java"))
                    .map(name -> name.substring(0, name.length() - ".java".length()))
                    .collect(Collectors.toCollection(TreeSet::new));
        }
    }

    private static Set<String> testsNamed(String line) {
        Set<String> names = new TreeSet<>();
        Matcher name = Pattern.compile("`(\\w+Test)`").matcher(line);
        while (name.find()) {
            names.add(name.group(1));
        }
        return names;
    }

    public static void main(String[] args) throws IOException, ReflectiveOperationException {
        Check check = new Check();
        int calls = 0;
        Set<String> named = new TreeSet<>();
        for (String line : Files.readAllLines(Path.of("README.md"))) {
            calls += play(check, line) ? 1 : 0;
            if (line.startsWith("| `")) {
                named.addAll(testsNamed(line));
            }
        }
        check.same("calls with their answers", calls, CALLS);
        System.out.print(named.equals(testsThere()) ? "" : "the table names " + named + ", there are " + testsThere() + "\n");
        check.same("the table names each test", named.equals(testsThere()) ? 1 : 0, 1);
        check.end("ReadmeTest");
    }
}
