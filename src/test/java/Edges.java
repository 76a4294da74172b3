import java.lang.reflect.InvocationTargetException;
import java.lang.reflect.Method;
import java.util.Arrays;
import java.util.Comparator;
import java.util.NoSuchElementException;
import java.util.function.LongSupplier;

/** What the tests of edges share: each method named after a promise or a term is one test, for one sentence. */
abstract class Edges {
    static final int MIN = Integer.MIN_VALUE;
    static final int MAX = Integer.MAX_VALUE;

    private static final Check CHECK = new Check();
    private static String test;

    static void is(long got, long due) {
        CHECK.same(test, got, due);
    }

    static void isArgument(LongSupplier call) {
        CHECK.refusesArgument(test, call);
    }

    static void isMissing(LongSupplier call) {
        CHECK.refusesMissing(test, call);
    }

    static String times(int n, String text) {
        return text.repeat(n);
    }

    /** The text with blanks ahead of its last byte, so that it has so many bytes. */
    static String stretched(String text, int bytes) {
        int last = text.length() - 1;
        return text.substring(0, last) + times(bytes - text.length(), " ") + text.substring(last);
    }

    static CourtMoorhens court(String text) {
        return Check.with(text);
    }

    /** A new object with this COURT, behind this WORK. */
    static CourtMoorhens behind(String court, String... works) {
        CourtMoorhens x = Check.with(court);
        for (String work : works) {
            Check.work(x, work);
        }
        return x;
    }

    /** WORKS that bring the MINUTE from 0 to n. */
    static void pass(CourtMoorhens x, int n) {
        for (int left = n; left > 0; left -= 160) {
            Check.work(x, times(Math.min(left, 160) / 40, "again 40[minute;];")
                    + "again " + Math.min(left, 160) % 40 + "[minute;];");
        }
    }

    static void faultIs(CourtMoorhens x, int answer, int kind, int place) {
        is(answer, kind - 10);
        is(x.fault(), place);
        is(x.count(1), 0);
    }

    static void courtFault(String text, int kind, int place) {
        CourtMoorhens x = new CourtMoorhens();
        faultIs(x, Check.court(x, text), kind, place);
    }

    static void lawFault(String text, int kind, int place) {
        CourtMoorhens x = new CourtMoorhens();
        faultIs(x, Check.law(x, text), kind, place);
    }

    static void workFault(String court, String text, int kind, int place) {
        CourtMoorhens x = Check.with(court);
        faultIs(x, Check.work(x, text), kind, place);
    }

    static void bookFault(String court, String text, int kind, int place) {
        CourtMoorhens x = Check.with(court);
        faultIs(x, Check.book(x, text), kind, place);
    }

    /** WALK by this LAW for steps 5, begin 33, crumbs 21, led 12, notes 2, bird 3. */
    static void walkIs(String law, int due) {
        CourtMoorhens x = new CourtMoorhens();
        is(Check.law(x, law), 1);
        is(x.would(5, 33, 21, 12, 2, 3), due);
    }

    /** All that WORK changes. */
    static String state(CourtMoorhens x) {
        StringBuilder state = new StringBuilder("minute ").append(x.told(4)).append(" noted ").append(x.told(8));
        for (int saying = 0; saying < x.told(0); saying++) {
            state.append(" said ").append(x.saying(saying, 0));
        }
        for (int bird = 0; bird < x.told(2); bird++) {
            state.append(" bird ").append(x.bird(bird, 0)).append(" led ").append(x.bird(bird, 3));
        }
        for (int counsel = 0; counsel < x.told(3); counsel++) {
            state.append(" crumbs ").append(x.counsel(counsel, 0));
        }
        return state.toString();
    }

    /** All that can be asked, but for how many calls were refused: two of these tell whether anything changed. */
    static String all(CourtMoorhens x) {
        StringBuilder all = new StringBuilder(state(x));
        for (int what = 0; what <= 11; what++) {
            all.append(" told ").append(x.told(what));
        }
        for (int saying = 0; saying < x.told(0); saying++) {
            for (int what = 1; what <= 5; what++) {
                all.append(" saying ").append(x.saying(saying, what));
            }
        }
        for (int bird = 0; bird < x.told(2); bird++) {
            for (int what = 1; what <= 4; what++) {
                all.append(" bird ").append(x.bird(bird, what));
            }
            all.append(" leaders ").append(x.leaders(bird, 1)).append(" over ").append(x.over(bird));
        }
        for (int counsel = 0; counsel < x.told(3); counsel++) {
            all.append(" sly ").append(x.counsel(counsel, 1));
        }
        for (int set = 0; set < 1 << x.told(0); set++) {
            all.append(" follows ").append(x.follows(set));
        }
        for (int what = 0; what <= 1; what++) {
            all.append(" fits ").append(x.fits(what)).append(" look ").append(x.look(what));
        }
        for (int what = 0; what <= 2; what++) {
            all.append(" count ").append(x.count(what)).append(" when ").append(x.when(what));
            all.append(" sides ").append(x.side(0, what)).append(' ').append(x.side(1, what));
        }
        all.append(" turn ").append(x.turn()).append(" used ").append(x.used()).append(" pairs ").append(x.pairs());
        all.append(" crowd ").append(x.crowd(0)).append(' ').append(x.crowd(1)).append(" clear ").append(x.clear());
        all.append(" hide ").append(x.hide((1 << x.told(0)) - 1, 1)).append(" next ").append(x.next(0));
        all.append(" loss ").append(x.loss(0)).append(" points ").append(x.point(0, 0)).append(x.point(1, 0));
        all.append(" purse ").append(x.purse((1 << x.told(3)) - 1)).append(" term");
        for (int what = 0; what <= 3; what++) {
            all.append(' ').append(x.term(77, 8, 9, what));
        }
        all.append(" would ").append(x.would(5, 33, 21, 12, 2, 3)).append(' ').append(x.would(20, 400, 160, 999, 9, 0));
        return all.append(" fault ").append(x.fault()).append(" lean ").append(x.lean()).toString();
    }

    static void isText(String got, String due) {
        CHECK.same(got.equals(due) ? test : test + "\ngot " + got + "\ndue " + due + "\nequal", got.equals(due) ? 1 : 0, 1);
    }

    /** The call, whatever it answers or throws, changes nothing but how many were refused. */
    static void stays(CourtMoorhens x, LongSupplier call) {
        String before = all(x);
        try {
            call.getAsLong();
        } catch (IllegalArgumentException | NoSuchElementException e) {
            CHECK.same(test + ", refused are counted", x.status(0) + x.status(1) > 0 ? 1 : 0, 1);
        }
        isText(all(x), before);
    }

    private static void runTest(Method method) throws IllegalAccessException {
        test = method.getName();
        int before = CHECK.asked();
        method.setAccessible(true);
        try {
            method.invoke(null);
        } catch (InvocationTargetException e) {
            CHECK.same(test + " threw " + e.getCause(), 1, 0);
        }
        if (CHECK.asked() == before) {
            CHECK.same(test + " asked nothing", 1, 0);
        }
    }

    static void run(Class<?> tests) throws IllegalAccessException {
        Method[] methods = tests.getDeclaredMethods();
        Arrays.sort(methods, Comparator.comparing(Method::getName));
        int many = 0;
        for (Method method : methods) {
            if (method.getName().startsWith("promise") || method.getName().startsWith("term")) {
                runTest(method);
                many++;
            }
        }
        CHECK.end(tests.getName() + ": " + many + " tests");
    }
}
