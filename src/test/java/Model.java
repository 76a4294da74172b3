import java.math.BigInteger;
import java.util.ArrayDeque;
import java.util.ArrayList;
import java.util.Arrays;
import java.util.Deque;
import java.util.List;
import java.util.NoSuchElementException;
import java.util.TreeMap;
import java.util.TreeSet;

/** The document once more, in its plainest form: slow, by trying all, and sharing nothing with the class. */
final class Model {
    static final class Fault extends RuntimeException {
        private static final long serialVersionUID = 1;
        final int kind;
        final int place;

        Fault(int kind, int place) {
            this.kind = kind;
            this.place = place;
        }
    }

    interface Value {
        int of(int[] inputs);
    }

    static final class Step {
        String word;
        int[] numbers;
        List<Step> body;
    }

    static final class State {
        int minute;
        int[] said;
        int[] begin;
        int[] led;
        int[] crumbs;
        TreeSet<Integer> noted = new TreeSet<>();

        State copy() {
            State other = new State();
            other.minute = minute;
            other.said = said.clone();
            other.begin = begin.clone();
            other.led = led.clone();
            other.crumbs = crumbs.clone();
            other.noted.addAll(noted);
            return other;
        }
    }

    static final class Image {
        State state;
        List<State> past;
    }

    /** A text with a place in it. */
    private static final class Source {
        final String text;
        int place;

        Source(String text) {
            this.text = text;
        }

        char peek() {
            while (place < text.length() && text.charAt(place) == ' ') {
                place++;
            }
            return place < text.length() ? text.charAt(place) : '\uffff';
        }

        boolean ended() {
            return peek() == '\uffff';
        }

        Fault wrong() {
            peek();
            return new Fault(1, place);
        }

        int number(int least, int most) {
            if (peek() < '0' || peek() > '9') {
                throw wrong();
            }
            int from = place;
            while (place < text.length() && text.charAt(place) >= '0' && text.charAt(place) <= '9') {
                place++;
            }
            BigInteger number = new BigInteger(text.substring(from, place));
            if (number.compareTo(BigInteger.valueOf(least)) < 0 || number.compareTo(BigInteger.valueOf(most)) > 0) {
                throw new Fault(2, from);
            }
            return number.intValue();
        }

        String word() {
            peek();
            int to = place;
            while (to < text.length() && text.charAt(to) >= 'a' && text.charAt(to) <= 'z') {
                to++;
            }
            String word = text.substring(place, to);
            return word;
        }

        void pass(String word) {
            place += word.length();
        }

        void sign(char sign) {
            if (peek() != sign) {
                throw wrong();
            }
            place++;
        }
    }

    private List<int[]> sayings = new ArrayList<>();
    private List<int[]> rules = new ArrayList<>();
    private List<int[]> birds = new ArrayList<>();
    private List<int[]> counsel = new ArrayList<>();
    private static final Value STEPS = inputs -> inputs[0];
    private Value law = STEPS;
    private TreeMap<Integer, Integer> book = new TreeMap<>();
    private State now = start();
    private List<State> past = new ArrayList<>();
    private final Deque<Image> images = new ArrayDeque<>();
    private String tape = "";
    private int fault = -1;
    private int refusedSteps;
    private int begun;
    private int done;
    private int missing;
    private int wrong;

    private State start() {
        State state = new State();
        state.said = sayings.stream().mapToInt(s -> s[0]).toArray();
        state.begin = birds.stream().mapToInt(b -> b[0]).toArray();
        state.led = new int[birds.size()];
        state.crumbs = counsel.stream().mapToInt(c -> c[0]).toArray();
        return state;
    }

    private void need(boolean right) {
        if (!right) {
            wrong++;
            throw new IllegalArgumentException();
        }
    }

    private void there(int number, List<int[]> all) {
        if (number < 0 || number >= all.size()) {
            missing++;
            throw new NoSuchElementException();
        }
    }

    private void bits(int bits, List<int[]> all) {
        need(bits >= 0 && bits >> all.size() == 0);
    }

    // ---- texts

    int feed(int a, int b, int c, int d, int e) {
        if (tape.length() > 580) {
            return -1;
        }
        StringBuilder more = new StringBuilder(tape);
        for (int number : new int[] {a, b, c, d, e}) {
            for (int i = 3; i >= 0; i--) {
                more.append((char) (number >> 8 * i & 0xff));
            }
        }
        tape = more.toString();
        return tape.length();
    }

    private Source take(int n, int most) {
        need(n >= 0 && n <= tape.length() && n <= most);
        Source source = new Source(tape.substring(0, n));
        tape = "";
        fault = -1;
        return source;
    }

    private int failed(Fault f) {
        fault = f.place;
        return f.kind - 10;
    }

    int court(int n) {
        Source source = take(n, 600);
        Model draft = new Model();
        try {
            int clauses = 0;
            while (!source.ended()) {
                draft.clause(source, clauses++);
                source.sign(';');
            }
        } catch (Fault f) {
            return failed(f);
        }
        sayings = draft.sayings;
        rules = draft.rules;
        birds = draft.birds;
        counsel = draft.counsel;
        law = STEPS;
        book = new TreeMap<>();
        images.clear();
        past = new ArrayList<>();
        refusedSteps = 0;
        now = start();
        return sayings.size();
    }

    private void clause(Source source, int before) {
        String word = source.word();
        List<int[]> list;
        int[] limits;
        int most;
        int last = sayings.size() - 1;
        switch (word) {
            case "say": list = sayings; most = 9; limits = new int[] {0, 99, 0, 1, 0, 60}; break;
            case "so": list = rules; most = 12; limits = new int[] {0, last, 0, last, 0, last}; break;
            case "bird": list = birds; most = 4; limits = new int[] {0, 99, 1, 20}; break;
            case "counsel": list = counsel; most = 4; limits = new int[] {0, 40, 0, 9}; break;
            default: throw source.wrong();
        }
        if (list.size() == most || before == 60) {
            throw new Fault(3, source.place);
        }
        source.pass(word);
        int[] numbers = new int[limits.length / 2];
        for (int i = 0; i < numbers.length; i++) {
            numbers[i] = source.number(limits[2 * i], limits[2 * i + 1]);
        }
        list.add(numbers);
    }

    int law(int n) {
        Source source = take(n, 150);
        try {
            Value value = sum(source, 0);
            if (!source.ended()) {
                throw source.wrong();
            }
            law = value;
        } catch (Fault f) {
            return failed(f);
        }
        return 1;
    }

    private Value sum(Source source, int open) {
        Value value = product(source, open);
        while (source.peek() == '+' || source.peek() == '-') {
            boolean plus = source.peek() == '+';
            source.place++;
            Value left = value;
            Value right = product(source, open);
            value = inputs -> plus ? left.of(inputs) + right.of(inputs) : left.of(inputs) - right.of(inputs);
        }
        return value;
    }

    private Value product(Source source, int open) {
        Value value = unit(source, open);
        while ("*/%".indexOf(source.peek()) >= 0) {
            char sign = source.peek();
            source.place++;
            Value left = value;
            Value right = unit(source, open);
            value = inputs -> multiply(sign, left.of(inputs), right.of(inputs));
        }
        return value;
    }

    private static int multiply(char sign, int left, int right) {
        BigInteger a = BigInteger.valueOf(left);
        BigInteger b = BigInteger.valueOf(right);
        if (sign == '*') {
            return a.multiply(b).intValue();
        }
        return right == 0 ? 0 : (sign == '/' ? a.divide(b) : a.remainder(b)).intValue();
    }

    private Value unit(Source source, int open) {
        char next = source.peek();
        if (next >= '0' && next <= '9') {
            int number = source.number(0, 999);
            return inputs -> number;
        }
        if (next == '(') {
            roomFor(source, open);
            source.place++;
            Value value = sum(source, open + 1);
            source.sign(')');
            return value;
        }
        String word = source.word();
        if (word.equals("least") || word.equals("most")) {
            roomFor(source, open);
            source.pass(word);
            source.sign('[');
            Value one = sum(source, open + 1);
            source.sign(',');
            Value other = sum(source, open + 1);
            source.sign(']');
            boolean least = word.equals("least");
            return inputs -> least ? Math.min(one.of(inputs), other.of(inputs)) : Math.max(one.of(inputs), other.of(inputs));
        }
        int input = Arrays.asList("steps", "begin", "crumbs", "led", "notes", "bird").indexOf(word);
        if (input < 0) {
            throw source.wrong();
        }
        source.pass(word);
        return inputs -> inputs[input];
    }

    private static void roomFor(Source source, int open) {
        if (open == 6) {
            source.peek();
            throw new Fault(3, source.place);
        }
    }

    int work(int n) {
        Source source = take(n, 150);
        if (past.size() == 16) {
            return -20;
        }
        List<Step> steps = new ArrayList<>();
        try {
            while (!source.ended()) {
                steps.add(step(source, 0));
                source.sign(';');
            }
        } catch (Fault f) {
            return failed(f);
        }
        past.add(now.copy());
        begun = 0;
        done = 0;
        refusedSteps = 0;
        doAll(steps);
        return done;
    }

    private Step step(Source source, int open) {
        Step step = new Step();
        step.word = source.word();
        int who = counsel.size() - 1;
        int said = sayings.size() - 1;
        int[] limits;
        switch (step.word) {
            case "call": limits = new int[] {0, who, 0, birds.size() - 1}; break;
            case "lead": limits = new int[] {0, who, 0, birds.size() - 1, 1, 9}; break;
            case "put": limits = new int[] {0, who, 0, said, 1, 9}; break;
            case "note": limits = new int[] {0, said}; break;
            case "minute": limits = new int[0]; break;
            case "again": roomFor(source, open); limits = new int[] {0, 40}; break;
            default: throw source.wrong();
        }
        source.pass(step.word);
        step.numbers = new int[limits.length / 2];
        for (int i = 0; i < step.numbers.length; i++) {
            step.numbers[i] = source.number(limits[2 * i], limits[2 * i + 1]);
        }
        if (step.word.equals("again")) {
            step.body = new ArrayList<>();
            source.sign('[');
            while (source.peek() != ']') {
                step.body.add(step(source, open + 1));
                source.sign(';');
            }
            source.sign(']');
        }
        return step;
    }

    private void doAll(List<Step> steps) {
        for (Step step : steps) {
            if (begun == 200) {
                return;
            }
            begun++;
            if (step.body != null) {
                for (int i = 0; i < step.numbers[0]; i++) {
                    doAll(step.body);
                }
            } else if (doStep(now, step.word, step.numbers)) {
                done++;
            } else {
                refusedSteps++;
            }
        }
    }

    private boolean doStep(State s, String word, int[] n) {
        switch (word) {
            case "call":
                if (s.crumbs[n[0]] == 0 || s.begin[n[1]] <= s.minute) {
                    return false;
                }
                s.crumbs[n[0]]--;
                s.begin[n[1]] = s.minute;
                return true;
            case "lead":
                if (s.crumbs[n[0]] < n[2] || s.begin[n[1]] < s.minute) {
                    return false;
                }
                s.crumbs[n[0]] -= n[2];
                s.begin[n[1]] = Math.min(400, s.begin[n[1]] + n[2]);
                s.led[n[1]] += n[2];
                return true;
            case "put":
                if (n[2] > counsel.get(n[0])[1] || s.said[n[1]] < s.minute) {
                    return false;
                }
                s.said[n[1]] = Math.min(400, s.said[n[1]] + n[2]);
                return true;
            case "note":
                if (s.noted.remove(n[0])) {
                    return true;
                }
                if (s.said[n[0]] > s.minute || counts(s, n[0])) {
                    return false;
                }
                s.noted.add(n[0]);
                return true;
            default:
                if (s.minute >= 400) {
                    return false;
                }
                s.minute++;
                return true;
        }
    }

    int book(int n) {
        Source source = take(n, 60);
        TreeMap<Integer, Integer> lines = new TreeMap<>();
        try {
            while (!source.ended()) {
                source.peek();
                int at = source.place;
                int saying = source.number(0, sayings.size() - 1);
                if (lines.containsKey(saying)) {
                    throw new Fault(2, at);
                }
                lines.put(saying, source.number(0, 1));
                source.sign(';');
            }
        } catch (Fault f) {
            return failed(f);
        }
        book = lines;
        return lines.size();
    }

    // ---- how all stands

    private int walk(State s, int bird) {
        int[] inputs = {birds.get(bird)[1], s.begin[bird], Arrays.stream(s.crumbs).sum(), s.led[bird], s.noted.size(), bird};
        return Math.min(40, Math.max(1, law.of(inputs)));
    }

    private boolean on(State s, int bird, int minute) {
        return s.begin[bird] <= minute && minute < s.begin[bird] + walk(s, bird);
    }

    private int birdsOn(State s, int minute) {
        int bits = 0;
        for (int bird = 0; bird < birds.size(); bird++) {
            bits += on(s, bird, minute) ? 1 << bird : 0;
        }
        return bits;
    }

    private boolean counts(State s, int saying) {
        return birdsOn(s, s.said[saying]) == 0;
    }

    private int counting(State s) {
        int bits = 0;
        for (int saying = 0; saying < sayings.size(); saying++) {
            bits += counts(s, saying) ? 1 << saying : 0;
        }
        return bits;
    }

    private int heard(State s, int minute) {
        int bits = 0;
        for (int saying = 0; saying < sayings.size(); saying++) {
            bits += counts(s, saying) && s.said[saying] <= minute ? 1 << saying : 0;
        }
        return bits;
    }

    private int closure(int bits) {
        for (int[] rule : rules) {
            if ((bits >> rule[0] & bits >> rule[1] & 1) == 1 && (bits >> rule[2] & 1) == 0) {
                return closure(bits | 1 << rule[2]);
            }
        }
        return bits;
    }

    private int weight(int bits, int side) {
        int weight = 0;
        for (int saying = 0; saying < sayings.size(); saying++) {
            weight += (bits >> saying & 1) == 1 && sayings.get(saying)[1] == side ? sayings.get(saying)[2] : 0;
        }
        return weight;
    }

    private int leanOf(int heard) {
        int all = closure(heard);
        return weight(all, 1) - weight(all, 0);
    }

    private static int noted(State s) {
        return s.noted.stream().mapToInt(n -> 1 << n).sum();
    }

    // ---- what is asked

    int fault() {
        return fault;
    }

    int undo() {
        if (past.isEmpty()) {
            return -1;
        }
        now = past.remove(past.size() - 1).copy();
        refusedSteps = 0;
        return past.size();
    }

    int told(int what) {
        need(what >= 0 && what < 12);
        int[] all = {sayings.size(), rules.size(), birds.size(), counsel.size(), now.minute, counting(now),
            heard(now, now.minute), closure(heard(now, now.minute)), noted(now), book.size(), refusedSteps,
            birdsOn(now, now.minute)};
        return all[what];
    }

    int lean() {
        return leanOf(heard(now, now.minute));
    }

    int saying(int saying, int what) {
        there(saying, sayings);
        need(what >= 0 && what < 6);
        int[] told = sayings.get(saying);
        int[] all = {now.said[saying], told[1], told[2], counts(now, saying) ? 1 : 0,
            now.noted.contains(saying) ? 1 : 0, birdsOn(now, now.said[saying])};
        return all[what];
    }

    int bird(int bird, int what) {
        there(bird, birds);
        need(what >= 0 && what < 5);
        int[] all = {now.begin[bird], birds.get(bird)[1], walk(now, bird), now.led[bird], now.begin[bird] + walk(now, bird) - 1};
        return all[what];
    }

    int counsel(int who, int what) {
        there(who, counsel);
        need(what >= 0 && what < 2);
        return what == 0 ? now.crumbs[who] : counsel.get(who)[1];
    }

    int would(int steps, int begin, int crumbs, int led, int notes, int bird) {
        need(in(steps, 1, 20) && in(begin, 0, 400) && in(crumbs, 0, 160) && in(led, 0, 999) && in(notes, 0, 9) && in(bird, 0, 3));
        return Math.min(40, Math.max(1, law.of(new int[] {steps, begin, crumbs, led, notes, bird})));
    }

    private static boolean in(int n, int least, int most) {
        return n >= least && n <= most;
    }

    int at(int n, int what) {
        need(in(n, 0, 499) && in(what, 0, 2));
        if (what == 1) {
            return saidWhere(n, 0);
        }
        return what == 0 ? birdsOn(now, n) : leanOf(heard(now, n));
    }

    private int saidWhere(int minute, int sign) {
        int bits = 0;
        for (int saying = 0; saying < sayings.size(); saying++) {
            bits += Integer.signum(now.said[saying] - minute) == sign ? 1 << saying : 0;
        }
        return bits;
    }

    int clear() {
        int many = 0;
        for (int minute = now.minute; minute < 500; minute++) {
            many += birdsOn(now, minute) == 0 ? 1 : 0;
        }
        return many;
    }

    int hide(int bits, int what) {
        bits(bits, sayings);
        need(in(what, 0, 1));
        int best = -1;
        int bestWay = -1;
        int ways = 1;
        for (int i = 0; i < birds.size(); i++) {
            ways *= 10;
        }
        // Counted with the last bird's digit running fastest, so that the first of alike ways comes first.
        for (int way = 0; way < ways; way++) {
            int rest = way;
            int together = 0;
            int digits = 0;
            boolean can = true;
            State s = now.copy();
            for (int bird = birds.size() - 1; bird >= 0; bird--) {
                int n = rest % 10;
                rest /= 10;
                can &= n == 0 || now.begin[bird] >= now.minute;
                together += n;
                digits = digits + n * (int) Math.round(Math.pow(10, bird));
                s.begin[bird] = Math.min(400, s.begin[bird] + n);
                s.led[bird] += n;
            }
            if (can && (best < 0 || together < best) && (counting(s) & bits) == 0) {
                best = together;
                bestWay = digits;
            }
        }
        return what == 0 ? best : bestWay;
    }

    int follows(int bits) {
        bits(bits, sayings);
        return closure(bits);
    }

    int proof(int saying) {
        there(saying, sayings);
        for (int many = 0; ; many++) {
            for (int set = 0; set < 1 << sayings.size(); set++) {
                if (Integer.bitCount(set) == many && (closure(set) >> saying & 1) == 1) {
                    return set;
                }
            }
        }
    }

    int turn() {
        int heard = heard(now, now.minute);
        for (int many = 0; many <= sayings.size(); many++) {
            for (int set = 0; set < 1 << sayings.size(); set++) {
                boolean can = Integer.bitCount(set) == many;
                for (int saying = 0; saying < sayings.size(); saying++) {
                    can &= (set >> saying & 1) == 0 || now.said[saying] <= now.minute && !counts(now, saying);
                }
                if (can && (leanOf(heard) > 0) == (leanOf(heard | set) <= 0)) {
                    return set;
                }
            }
        }
        return -1;
    }

    private List<int[]> fitting() {
        List<int[]> pairs = new ArrayList<>();
        for (int bird = 0; bird < birds.size(); bird++) {
            for (int n = 0; n < 10; n++) {
                State s = now.copy();
                s.begin[bird] = Math.min(400, s.begin[bird] + n);
                s.led[bird] += n;
                boolean right = true;
                for (int saying : book.keySet()) {
                    right &= counts(s, saying) == (book.get(saying) == 1);
                }
                if (right) {
                    pairs.add(new int[] {10 * bird + n, counting(s)});
                }
            }
        }
        return pairs;
    }

    int fits(int what) {
        need(in(what, 0, 1));
        List<int[]> pairs = fitting();
        return what == 0 ? pairs.size() : pairs.isEmpty() ? -1 : pairs.get(0)[0];
    }

    int look(int what) {
        need(in(what, 0, 1));
        int best = -1;
        int bestLeft = -1;
        for (int saying = 0; saying < sayings.size(); saying++) {
            int[] left = new int[2];
            for (int[] pair : fitting()) {
                left[pair[1] >> saying & 1]++;
            }
            int worst = Math.max(left[0], left[1]);
            if (!book.containsKey(saying) && (best < 0 || worst < bestLeft)) {
                best = saying;
                bestLeft = worst;
            }
        }
        return what == 0 ? best : bestLeft;
    }

    long kind(int n, int k, int q, int half) {
        need(in(n, 0, 12) && in(k, 0, 13) && in(q, 0, 16) && in(half, 0, 1));
        BigInteger[] likely = new BigInteger[n + 2];
        Arrays.fill(likely, BigInteger.ZERO);
        likely[0] = BigInteger.ONE;
        for (int i = 0; i < n; i++) {
            for (int j = n; j >= 0; j--) {
                BigInteger one = j == 0 ? BigInteger.ZERO : likely[j - 1].multiply(BigInteger.valueOf(q));
                likely[j] = likely[j].multiply(BigInteger.valueOf(16 - q)).add(one);
            }
        }
        BigInteger above = BigInteger.ZERO;
        for (int j = k; j <= n; j++) {
            above = above.add(likely[j]);
        }
        BigInteger below = BigInteger.valueOf(16).pow(n);
        BigInteger common = above.gcd(below);
        return (half == 0 ? above : below).divide(common).longValueExact();
    }

    int order(int v, int w, int what) {
        need(in(v, 0, 99) && in(w, 0, 99) && in(what, 0, 2));
        int[][] gain = {{v - w, v}, {-w, 0}};
        List<Integer> rests = new ArrayList<>();
        for (int one = 0; one < 2; one++) {
            for (int other = 0; other < 2; other++) {
                if (gain[1 - one][other] <= gain[one][other] && gain[1 - other][one] <= gain[other][one]) {
                    rests.add(10 * one + other);
                }
            }
        }
        if (what == 0) {
            return rests.size();
        }
        if (rests.isEmpty()) {
            return what == 1 ? -1 : 0;
        }
        int first = rests.get(0);
        return what == 1 ? first : gain[first / 10][first % 10] + gain[first % 10][first / 10];
    }

    int loaf(int who, int all, int n) {
        there(who, counsel);
        bits(all, counsel);
        need(in(n, 0, 999));
        int[] given = new int[counsel.size()];
        // Levelled: a crumb to each that may have more, while there are enough for all of them.
        while (true) {
            int[] more = given.clone();
            for (int i = 0; i < given.length; i++) {
                more[i] += (all >> i & 1) == 1 && given[i] < now.crumbs[i] ? 1 : 0;
            }
            if (Arrays.equals(more, given) || Arrays.stream(more).sum() > n) {
                return given[who];
            }
            given = more;
        }
    }

    private int heaviest(int bits, int what) {
        int best = -1;
        for (int saying = sayings.size() - 1; saying >= 0; saying--) {
            if ((bits >> saying & 1) == 1 && (best < 0 || sayings.get(saying)[2] >= sayings.get(best)[2])) {
                best = saying;
            }
        }
        return best < 0 || what == 0 ? best : sayings.get(best)[2];
    }

    int loss(int what) {
        need(in(what, 0, 1));
        return heaviest(~counting(now) & ((1 << sayings.size()) - 1), what);
    }

    int next(int what) {
        need(in(what, 0, 1));
        for (int minute = now.minute; minute <= 400; minute++) {
            int then = saidWhere(minute, 0);
            if (then != 0) {
                return what == 1 ? minute : Integer.numberOfTrailingZeros(then);
            }
        }
        return -1;
    }

    int side(int side, int what) {
        need(in(side, 0, 1) && in(what, 0, 2));
        return weight(what == 0 ? heard(now, now.minute) : what == 1 ? noted(now) : -1, side);
    }

    int leaders(int bird, int n) {
        there(bird, birds);
        need(in(n, 1, 9));
        int bits = 0;
        for (int who = 0; who < counsel.size(); who++) {
            bits += doStep(now.copy(), "lead", new int[] {who, bird, n}) ? 1 << who : 0;
        }
        return bits;
    }

    int used() {
        int all = closure(heard(now, now.minute));
        int bits = 0;
        for (int i = 0; i < rules.size(); i++) {
            bits += (all >> rules.get(i)[0] & all >> rules.get(i)[1] & 1) << i;
        }
        return bits;
    }

    int over(int bird) {
        there(bird, birds);
        int bits = 0;
        for (int saying = 0; saying < sayings.size(); saying++) {
            bits += on(now, bird, now.said[saying]) ? 1 << saying : 0;
        }
        return bits;
    }

    int delay(int saying) {
        there(saying, sayings);
        for (int n = 0; n < 10; n++) {
            State s = now.copy();
            s.said[saying] = Math.min(400, s.said[saying] + n);
            if (counts(s, saying)) {
                return n;
            }
        }
        return -1;
    }

    int point(int side, int what) {
        need(in(side, 0, 1) && in(what, 0, 1));
        int bits = 0;
        for (int saying = 0; saying < sayings.size(); saying++) {
            bits += sayings.get(saying)[1] == side ? heard(now, now.minute) & 1 << saying : 0;
        }
        return heaviest(bits, what);
    }

    int purse(int all) {
        bits(all, counsel);
        int together = 0;
        for (int who = 0; who < counsel.size(); who++) {
            together += (all >> who & 1) * now.crumbs[who];
        }
        return together;
    }

    int pairs() {
        int many = 0;
        for (int one = 0; one < birds.size(); one++) {
            for (int other = one + 1; other < birds.size(); other++) {
                boolean together = false;
                for (int minute = 0; minute < 500; minute++) {
                    together |= on(now, one, minute) && on(now, other, minute);
                }
                many += together ? 1 : 0;
            }
        }
        return many;
    }

    int crowd(int what) {
        need(in(what, 0, 1));
        for (int many = 4; ; many--) {
            for (int minute = 0; minute < 500; minute++) {
                if (Integer.bitCount(birdsOn(now, minute)) == many) {
                    return what == 0 ? minute : many;
                }
            }
        }
    }

    int swing(int saying) {
        there(saying, sayings);
        return leanOf(heard(now, now.minute) ^ 1 << saying);
    }

    int when(int what) {
        need(in(what, 0, 2));
        return saidWhere(now.minute, 1 - what);
    }

    private int seed;

    private int draw(int by) {
        seed = (int) (seed * 1103515245L + 12345L);
        return (seed >> 16 & 32767) % by;
    }

    private State play(int first, int q, int minutes) {
        State s = now.copy();
        seed = first;
        for (int i = 0; i < minutes; i++) {
            if (!counsel.isEmpty() && !birds.isEmpty()) {
                int who = draw(counsel.size());
                int bird = draw(birds.size());
                if (draw(16) < q) {
                    doStep(s, "lead", new int[] {who, bird, 1 + draw(9)});
                } else {
                    doStep(s, "call", new int[] {who, bird});
                }
            }
            if (!sayings.isEmpty()) {
                doStep(s, "note", new int[] {draw(sayings.size())});
            }
            s.minute++;
        }
        return s;
    }

    int term(int first, int q, int minutes, int what) {
        need(in(q, 0, 16) && in(minutes, 1, 48) && in(what, 0, 3));
        State s = play(first, q, minutes);
        int[] all = {counting(s), leanOf(heard(s, s.minute)), noted(s), Arrays.stream(s.crumbs).sum()};
        return all[what];
    }

    int span(int first, int many, int q, int minutes, int what, int saying) {
        need(in(many, 1, 10) && in(q, 0, 16) && in(minutes, 1, 48) && in(what, 0, 2) && in(saying, 0, sayings.size() - 1));
        List<Integer> leans = new ArrayList<>();
        int counted = 0;
        for (int i = 0; i < many; i++) {
            State s = play(first + i, q, minutes);
            leans.add(leanOf(heard(s, s.minute)));
            counted += counts(s, saying) ? 1 : 0;
        }
        leans.sort(null);
        return what == 2 ? counted : leans.get(what == 0 ? 0 : many - 1);
    }

    int image() {
        if (images.size() == 3) {
            return -1;
        }
        Image image = new Image();
        image.state = now.copy();
        image.past = new ArrayList<>(past);
        images.push(image);
        return images.size();
    }

    int restore() {
        if (images.isEmpty()) {
            return -1;
        }
        Image image = images.pop();
        now = image.state;
        past = image.past;
        refusedSteps = 0;
        return images.size();
    }

    int status(int what) {
        return what == 0 ? missing : what == 1 ? wrong : -1;
    }

    int count(int what) {
        return what == 0 ? images.size() : what == 1 ? tape.length() : what == 2 ? past.size() : -1;
    }
}
