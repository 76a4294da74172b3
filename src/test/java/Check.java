import java.util.NoSuchElementException;
import java.util.function.LongSupplier;

/** Counts the answers that are not as due, and puts texts on the TAPE. */
final class Check {
    private int asked;
    private int wrong;

    void same(String what, long got, long due) {
        asked++;
        if (got != due) {
            wrong++;
            System.out.println(what + " answered " + got + ", due is " + due);
        }
    }

    void refusesArgument(String what, LongSupplier call) {
        refuses(what, call, IllegalArgumentException.class);
    }

    void refusesMissing(String what, LongSupplier call) {
        refuses(what, call, NoSuchElementException.class);
    }

    private void refuses(String what, LongSupplier call, Class<?> due) {
        asked++;
        try {
            long got = call.getAsLong();
            wrong++;
            System.out.println(what + " answered " + got + ", due is " + due.getSimpleName());
        } catch (RuntimeException e) {
            if (e.getClass() != due) {
                wrong++;
                System.out.println(what + " threw " + e + ", due is " + due.getSimpleName());
            }
        }
    }

    int asked() {
        return asked;
    }

    /** Ends the test's main: prints the sum and sets the exit code. */
    void end(String test) {
        System.out.println(test + ": " + asked + " checks, " + wrong + " wrong");
        if (wrong != 0 || asked == 0) {
            System.exit(1);
        }
    }

    /** Feeds the text, with zeros behind it to a multiple of 20 bytes. */
    static int feed(CourtMoorhens x, String text) {
        int there = x.count(1);
        for (int from = 0; from < text.length(); from += 20) {
            there = x.feed(number(text, from), number(text, from + 4), number(text, from + 8),
                    number(text, from + 12), number(text, from + 16));
        }
        return there;
    }

    static int number(String text, int from) {
        int number = 0;
        for (int i = from; i < from + 4; i++) {
            number = number * 256 + (i < text.length() ? text.charAt(i) : 0);
        }
        return number;
    }

    static int court(CourtMoorhens x, String text) {
        feed(x, text);
        return x.court(text.length());
    }

    static int law(CourtMoorhens x, String text) {
        feed(x, text);
        return x.law(text.length());
    }

    static int work(CourtMoorhens x, String text) {
        feed(x, text);
        return x.work(text.length());
    }

    static int book(CourtMoorhens x, String text) {
        feed(x, text);
        return x.book(text.length());
    }

    /** A new object with this COURT. */
    static CourtMoorhens with(String court) {
        CourtMoorhens x = new CourtMoorhens();
        court(x, court);
        return x;
    }
}
