import java.lang.reflect.InvocationTargetException;
import java.lang.reflect.Method;
import java.util.ArrayList;
import java.util.List;
import java.util.Random;

/** Random runs of calls, each answered by the class and by the model of the document. */
public final class ModelTest {
    private static final int RUNS = 600;
    private static final int MOST_SHOWN = 10;

    private final Random random;
    private final CourtMoorhens x = new CourtMoorhens();
    private final Model model = new Model();
    private final List<String> calls = new ArrayList<>();
    private int sayings;
    private int birds;
    private int counsel;
    private int wrong;

    private ModelTest(long seed) {
        random = new Random(seed);
    }

    private int below(int n) {
        return random.nextInt(n);
    }

    private boolean rarely(int oneOf) {
        return below(oneOf) == 0;
    }

    // ---- calls

    private static String answer(Object on, String name, int[] numbers) {
        try {
            for (Method method : on.getClass().getDeclaredMethods()) {
                if (method.getName().equals(name) && method.getParameterCount() == numbers.length
                        && (numbers.length == 0 || method.getParameterTypes()[0] == int.class)) {
                    Object[] boxed = new Object[numbers.length];
                    for (int i = 0; i < boxed.length; i++) {
                        boxed[i] = numbers[i];
                    }
                    method.setAccessible(true);
                    return method.invoke(on, boxed).toString();
                }
            }
            throw new IllegalStateException("no method " + name);
        } catch (InvocationTargetException e) {
            return "throws." + e.getCause().getClass().getSimpleName();
        } catch (IllegalAccessException e) {
            throw new IllegalStateException(e);
        }
    }

    private String call(String name, int... numbers) {
        String got = answer(x, name, numbers);
        String due = answer(model, name, numbers);
        StringBuilder line = new StringBuilder(name).append('(');
        for (int i = 0; i < numbers.length; i++) {
            line.append(i == 0 ? "" : ", ").append(numbers[i]);
        }
        calls.add(line.append(") ").append(got).toString());
        if (!got.equals(due)) {
            wrong++;
            if (wrong == 1) {
                calls.forEach(System.out::println);
            }
            System.out.println(line + ", due is " + due);
        }
        return due;
    }

    private void read(String name, String text) {
        calls.add("# " + text);
        for (int from = 0; from < text.length(); from += 20) {
            call("feed", Check.number(text, from), Check.number(text, from + 4), Check.number(text, from + 8),
                    Check.number(text, from + 12), Check.number(text, from + 16));
        }
        call(name, text.length());
        call("fault");
    }

    // ---- texts

    private String blanks() {
        return rarely(4) ? "  ".substring(below(2)) : "";
    }

    private String number(int n) {
        return (rarely(20) ? "00" : "") + n;
    }

    private String clause(String word, int... numbers) {
        StringBuilder text = new StringBuilder(blanks()).append(word);
        for (int i = 0; i < numbers.length; i++) {
            text.append(i > 0 || rarely(3) ? " " : "").append(blanks()).append(number(numbers[i]));
        }
        return text.append(blanks()).append(';').toString();
    }

    /** One of the limits now and then, and one beyond them even less often. */
    private int within(int least, int most) {
        if (rarely(150)) {
            return rarely(2) ? most + 1 : 100000 * below(30000);
        }
        return rarely(12) ? most : rarely(12) ? least : least + below(Math.max(1, most - least + 1));
    }

    private String courtText() {
        int span = rarely(4) ? 99 : 5 + below(30);
        StringBuilder text = new StringBuilder();
        sayings = below(rarely(3) ? 10 : 7);
        birds = below(5);
        counsel = below(5);
        int many = 0;
        for (int i = 0; i < sayings; i++) {
            text.append(clause("say", within(0, span), below(2), within(0, rarely(2) ? 9 : 60)));
            many++;
            if (rarely(2)) {
                text.append(clause("so", below(many), below(many), below(many)));
            }
        }
        for (int i = rarely(3) ? below(9) : 0; i > 0 && sayings > 0; i--) {
            text.append(clause("so", within(0, sayings - 1), within(0, sayings - 1), within(0, sayings - 1)));
        }
        for (int i = 0; i < birds; i++) {
            text.append(clause("bird", within(0, span), within(1, rarely(2) ? 5 : 20)));
        }
        for (int i = 0; i < counsel; i++) {
            text.append(clause("counsel", within(0, rarely(3) ? 5 : 40), within(0, 9)));
        }
        return text.toString();
    }

    private String lawText(int depth) {
        String[] inputs = {"steps", "begin", "crumbs", "led", "notes", "bird"};
        int way = depth > (rarely(10) ? 7 : 3) ? below(5) : below(9);
        switch (way) {
            case 0: return blanks() + number(within(0, rarely(3) ? 999 : 9));
            case 1: case 2: case 3: case 4: return blanks() + inputs[below(6)];
            case 5: return blanks() + "(" + lawText(depth + 1) + blanks() + ")";
            case 6:
                return blanks() + (rarely(2) ? "least" : "most") + blanks() + "[" + lawText(depth + 1) + ","
                        + lawText(depth + 1) + blanks() + "]";
            default: return lawText(depth + 1) + blanks() + "+-*/%".charAt(below(5)) + lawText(depth + 1);
        }
    }

    private String workText(int depth, int most) {
        StringBuilder text = new StringBuilder();
        int many = below(most);
        for (int i = 0; i < many; i++) {
            switch (below(8)) {
                case 0: text.append(clause("call", within(0, counsel - 1), within(0, birds - 1))); break;
                case 1: text.append(clause("lead", within(0, counsel - 1), within(0, birds - 1), within(1, 9))); break;
                case 2: text.append(clause("put", within(0, counsel - 1), within(0, sayings - 1), within(1, 9))); break;
                case 3: case 4: text.append(clause("note", within(0, sayings - 1))); break;
                case 5: text.append(clause("minute")); break;
                default:
                    if (depth < (rarely(20) ? 8 : 3)) {
                        text.append(blanks()).append("again").append(blanks()).append(number(within(0, rarely(3) ? 40 : 5)));
                        text.append("[").append(rarely(2) ? "minute;" : workText(depth + 1, 4)).append("];");
                    }
                    break;
            }
        }
        return text.toString();
    }

    private String bookText() {
        StringBuilder text = new StringBuilder();
        for (int saying = 0; saying < sayings; saying++) {
            if (rarely(3)) {
                text.append(clause("", rarely(25) ? below(10) : saying, within(0, 1)));
            }
        }
        return text.toString();
    }

    private String spoiled(String text) {
        if (text.isEmpty() || !rarely(8)) {
            return text;
        }
        int at = below(text.length());
        String signs = " ;0123456789aelmost[](),+-*/%\u0000\u00e9A\n\t";
        String other = String.valueOf(signs.charAt(below(signs.length())));
        switch (below(3)) {
            case 0: return text.substring(0, at);
            case 1: return text.substring(0, at) + other + text.substring(at + 1);
            default: return text.substring(0, at) + other + text.substring(at);
        }
    }

    // ---- runs

    private void readSome(int way) {
        switch (way) {
            case 0: read("law", spoiled(lawText(0))); break;
            case 1: read("book", spoiled(bookText())); break;
            case 2: read("work", "again " + below(41) + "[" + (rarely(2) ? "minute;" : workText(1, 4)) + "];"); break;
            case 3: call("court", below(700) - 20); break;
            case 4: call("feed", random.nextInt(), random.nextInt(), random.nextInt(), random.nextInt(), random.nextInt()); break;
            default: read("work", spoiled(workText(0, 7))); break;
        }
    }

    private int what(int most) {
        return rarely(25) ? rarely(2) ? most + 1 : -1 : below(most + 1);
    }

    private int one(int many) {
        return rarely(25) ? rarely(2) ? many : -1 : below(Math.max(1, many));
    }

    private int bits(int many) {
        return rarely(25) ? rarely(2) ? 1 << many : -1 : below(1 << many) & (rarely(2) ? -1 : below(1 << many));
    }

    private int limit(int least, int most) {
        return rarely(25) ? rarely(2) ? most + 1 : least - 1 : rarely(6) ? least : rarely(6) ? most : least + below(most - least + 1);
    }

    private void ask(int way) {
        switch (way) {
            case 0: call("told", what(11)); break;
            case 1: call("lean"); break;
            case 2: call("saying", one(sayings), what(5)); break;
            case 3: call("bird", one(birds), what(4)); break;
            case 4: call("counsel", one(counsel), what(1)); break;
            case 5: call("would", limit(1, 20), limit(0, 400), limit(0, 160), limit(0, 999), limit(0, 9), limit(0, 3)); break;
            case 6: call("at", rarely(2) ? below(60) : limit(0, 499), what(2)); break;
            case 7: call("clear"); break;
            case 8: call("hide", rarely(2) && sayings > 0 ? 1 << below(sayings) : bits(sayings), what(1)); break;
            case 9: call("follows", bits(sayings)); break;
            case 10: call("proof", one(sayings)); break;
            case 11: call("turn"); break;
            case 12: call("fits", what(1)); break;
            case 13: call("look", what(1)); break;
            case 14: call("kind", limit(0, 12), limit(0, 13), limit(0, 16), what(1)); break;
            case 15: call("order", limit(0, 99), limit(0, 99), what(2)); break;
            case 16: call("loaf", one(counsel), bits(counsel), rarely(2) ? below(60) : limit(0, 999)); break;
            case 17: call("loss", what(1)); break;
            case 18: call("next", what(1)); break;
            case 19: call("side", what(1), what(2)); break;
            case 20: call("leaders", one(birds), limit(1, 9)); break;
            default: askMore(way); break;
        }
    }

    private void askMore(int way) {
        switch (way) {
            case 21: call("used"); break;
            case 22: call("over", one(birds)); break;
            case 23: call("delay", one(sayings)); break;
            case 24: call("point", what(1), what(1)); break;
            case 25: call("purse", bits(counsel)); break;
            case 26: call("pairs"); break;
            case 27: call("crowd", what(1)); break;
            case 28: call("swing", one(sayings)); break;
            case 29: call("when", what(2)); break;
            case 30: call("term", random.nextInt(), limit(0, 16), limit(1, 48), what(3)); break;
            case 31: call("span", rarely(9) ? Integer.MAX_VALUE : random.nextInt(), limit(1, 10), limit(0, 16), limit(1, 48), what(2), one(sayings)); break;
            case 32: call("image"); break;
            case 33: call("restore"); break;
            case 34: call("undo"); break;
            case 35: call("status", what(2)); break;
            case 36: call("count", what(3)); break;
            default: call("fault"); break;
        }
    }

    /** Any call that does not read a text, with numbers of any size. */
    private void askWildly() {
        List<Method> methods = new ArrayList<>();
        for (Method method : CourtMoorhens.class.getMethods()) {
            if (method.getDeclaringClass() == CourtMoorhens.class) {
                methods.add(method);
            }
        }
        methods.sort((one, other) -> one.getName().compareTo(other.getName()));
        Method method = methods.get(below(methods.size()));
        int[] numbers = new int[method.getParameterCount()];
        int[] wild = {Integer.MIN_VALUE, Integer.MAX_VALUE, -1, 0, 1, random.nextInt(), 1 << below(32)};
        for (int i = 0; i < numbers.length; i++) {
            numbers[i] = rarely(2) ? below(3) : wild[below(wild.length)];
        }
        call(method.getName(), numbers);
    }

    private boolean run() {
        if (rarely(20)) {
            ask(below(38));
        }
        read("court", spoiled(courtText()));
        if (rarely(2)) {
            read("law", spoiled(lawText(0)));
        }
        while (calls.size() < 400 && wrong < MOST_SHOWN) {
            if (rarely(6)) {
                readSome(below(9));
            } else {
                ask(below(38));
            }
            if (rarely(20)) {
                askWildly();
            }
            if (rarely(120)) {
                read("court", spoiled(courtText()));
            }
        }
        return wrong == 0;
    }

    public static void main(String[] args) {
        Check check = new Check();
        int shown = 0;
        for (int seed = 0; seed < (args.length == 0 ? RUNS : Integer.parseInt(args[0])) && shown < 3; seed++) {
            boolean right = new ModelTest(seed).run();
            check.same("run " + seed + " (1 all as the model)", right ? 1 : 0, 1);
            shown += right ? 0 : 1;
        }
        check.end("ModelTest");
    }
}
