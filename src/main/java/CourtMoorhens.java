import java.util.NoSuchElementException;

public final class CourtMoorhens {
    public static final int NONE = -1;

    private static final int MOST_SAYINGS = 9;
    private static final int MOST_RULES = 12;
    private static final int MOST_BIRDS = 4;
    private static final int MOST_COUNSEL = 4;
    private static final int MOST_CLAUSES = 60;
    private static final int MOST_CRUMBS = 40;
    private static final int TAPE_BYTES = 600;
    private static final int SHORT_TEXT = 150;
    private static final int BOOK_BYTES = 60;
    private static final int MOST_OPEN = 6;
    private static final int MOST_BEGUN = 200;
    private static final int MOST_AGAIN = 40;
    private static final int MOST_WORKS = 16;
    private static final int MOST_IMAGES = 3;
    private static final int LATEST = 400;
    private static final int LAST_ASKED = 499;
    private static final int MOST_LED = 9;
    private static final int SIXTEENTHS = 16;

    private static final int CANNOT_STAND = 1;
    private static final int NO_SUCH_NUMBER = 2;
    private static final int TOO_MANY = 3;
    private static final int FAULT_LESS = 10;
    private static final int TOO_MANY_WORKS = -20;

    private final Reader text;
    private final Court bench;
    private final Court draftBench;
    private final Law rule;
    private final Law draftRule;
    private final Book lines;
    private final Book draftLines;
    private final Plan plan;
    private final Hearing hearing;
    private final Past past;
    private final Search search;
    private final Term terms;
    private int stepsRefused;
    private int missingRefused;
    private int wrongRefused;

    public CourtMoorhens() {
        text = new Reader();
        bench = new Court();
        draftBench = new Court();
        rule = new Law();
        draftRule = new Law();
        lines = new Book();
        draftLines = new Book();
        plan = new Plan();
        hearing = new Hearing(bench, rule);
        past = new Past();
        search = new Search(bench, hearing, lines);
        terms = new Term(bench, new Hearing(bench, rule));
    }

    public int feed(int a, int b, int c, int d, int e) {
        if (text.length + 20 > TAPE_BYTES) {
            return NONE;
        }
        text.addNumber(a);
        text.addNumber(b);
        text.addNumber(c);
        text.addNumber(d);
        text.addNumber(e);
        return text.length;
    }

    public int court(int n) throws IllegalArgumentException {
        startText(n, TAPE_BYTES);
        draftBench.readFrom(text);
        if (text.faultKind != 0) {
            return text.faultKind - FAULT_LESS;
        }
        bench.become(draftBench);
        rule.reset();
        lines.reset();
        past.reset();
        stepsRefused = 0;
        hearing.begin();
        return bench.sayings;
    }

    public int law(int n) throws IllegalArgumentException {
        startText(n, SHORT_TEXT);
        draftRule.readFrom(text);
        if (text.faultKind != 0) {
            return text.faultKind - FAULT_LESS;
        }
        rule.become(draftRule);
        hearing.measure();
        return 1;
    }

    public int work(int n) throws IllegalArgumentException {
        startText(n, SHORT_TEXT);
        if (past.works >= MOST_WORKS) {
            return TOO_MANY_WORKS;
        }
        plan.readFrom(text, bench);
        if (text.faultKind != 0) {
            return text.faultKind - FAULT_LESS;
        }
        past.push(hearing);
        plan.run(hearing, 0, plan.size, 0);
        stepsRefused = plan.refused;
        return plan.done;
    }

    public int book(int n) throws IllegalArgumentException {
        startText(n, BOOK_BYTES);
        draftLines.readFrom(text, bench.sayings);
        if (text.faultKind != 0) {
            return text.faultKind - FAULT_LESS;
        }
        lines.become(draftLines);
        return Integer.bitCount(lines.told);
    }

    public int fault() {
        return text.faultPlace;
    }

    public int undo() {
        if (past.works == 0) {
            return -1;
        }
        past.pop(hearing);
        stepsRefused = 0;
        return past.works;
    }

    public int told(int what) throws IllegalArgumentException {
        checkArgument(what >= 0 && what <= 11);
        switch (what) {
            case 0: return bench.sayings;
            case 1: return bench.rules;
            case 2: return bench.birds;
            case 3: return bench.counsel;
            case 4: return hearing.minute;
            case 5: return hearing.counting();
            case 6: return hearing.heardBy(hearing.minute);
            case 7: return bench.closure(hearing.heardBy(hearing.minute));
            case 8: return hearing.noted;
            case 9: return Integer.bitCount(lines.told);
            case 10: return stepsRefused;
            default: return hearing.birdsOn(hearing.minute);
        }
    }

    public int lean() {
        return bench.leanFrom(hearing.heardBy(hearing.minute));
    }

    public int saying(int saying, int what) throws NoSuchElementException, IllegalArgumentException {
        checkThere(saying, bench.sayings);
        checkArgument(what >= 0 && what <= 5);
        switch (what) {
            case 0: return hearing.said.get(saying);
            case 1: return bench.saySide.get(saying);
            case 2: return bench.sayWeight.get(saying);
            case 3: return hearing.doesCount(saying) ? 1 : 0;
            case 4: return hearing.isNoted(saying) ? 1 : 0;
            default: return hearing.birdsOn(hearing.said.get(saying));
        }
    }

    public int bird(int bird, int what) throws NoSuchElementException, IllegalArgumentException {
        checkThere(bird, bench.birds);
        checkArgument(what >= 0 && what <= 4);
        switch (what) {
            case 0: return hearing.begins.get(bird);
            case 1: return bench.birdSteps.get(bird);
            case 2: return hearing.walks.get(bird);
            case 3: return hearing.led.get(bird);
            default: return hearing.lastOn(bird);
        }
    }

    public int counsel(int counsel, int what) throws NoSuchElementException, IllegalArgumentException {
        checkThere(counsel, bench.counsel);
        checkArgument(what == 0 || what == 1);
        return what == 0 ? hearing.crumbs.get(counsel) : bench.counselSly.get(counsel);
    }

    public int would(int steps, int begin, int crumbs, int led, int notes, int bird) throws IllegalArgumentException {
        checkArgument(steps >= 1 && steps <= 20 && begin >= 0 && begin <= LATEST);
        checkArgument(crumbs >= 0 && crumbs <= MOST_COUNSEL * MOST_CRUMBS && led >= 0 && led <= 999);
        checkArgument(notes >= 0 && notes <= MOST_SAYINGS && bird >= 0 && bird < MOST_BIRDS);
        return rule.walk(steps, begin, crumbs, led, notes, bird);
    }

    public int at(int n, int what) throws IllegalArgumentException {
        checkArgument(n >= 0 && n <= LAST_ASKED && what >= 0 && what <= 2);
        switch (what) {
            case 0: return hearing.birdsOn(n);
            case 1: return hearing.saidBetween(n, n);
            default: return bench.leanFrom(hearing.heardBy(n));
        }
    }

    public int clear() {
        int free = 0;
        for (int minute = hearing.minute; minute <= LAST_ASKED; minute++) {
            if (hearing.birdsOn(minute) == 0) {
                free++;
            }
        }
        return free;
    }

    public int hide(int sayings, int what) throws IllegalArgumentException {
        checkBits(sayings, bench.sayings);
        checkArgument(what == 0 || what == 1);
        search.findHiding(sayings);
        return what == 0 ? search.hidingMinutes : search.hidingWay;
    }

    public int follows(int sayings) throws IllegalArgumentException {
        checkBits(sayings, bench.sayings);
        return bench.closure(sayings);
    }

    public int proof(int saying) throws NoSuchElementException {
        checkThere(saying, bench.sayings);
        return search.leastProof(saying);
    }

    public int turn() {
        return search.leastTurn();
    }

    public int fits(int what) throws IllegalArgumentException {
        checkArgument(what == 0 || what == 1);
        search.weighPairs();
        return what == 0 ? search.pairsFitting : search.firstFitting;
    }

    public int look(int what) throws IllegalArgumentException {
        checkArgument(what == 0 || what == 1);
        search.weighPairs();
        int saying = search.bestQuestion();
        return what == 0 || saying == NONE ? saying : search.pairsLeft(saying);
    }

    public long kind(int n, int k, int q, int half) throws IllegalArgumentException {
        checkArgument(n >= 0 && n <= 12 && k >= 0 && k <= 13);
        checkArgument(q >= 0 && q <= SIXTEENTHS && (half == 0 || half == 1));
        long above = 0;
        for (int many = k; many <= n; many++) {
            above += waysToChoose(n, many) * power(q, many) * power(SIXTEENTHS - q, n - many);
        }
        long below = power(SIXTEENTHS, n);
        // What stands below is a power of two, so halving alone brings the least terms.
        for (int halved = 0; halved < 48 && below > 1 && (above & 1) == 0; halved++) {
            above >>= 1;
            below >>= 1;
        }
        return half == 0 ? above : below;
    }

    public int order(int v, int w, int what) throws IllegalArgumentException {
        checkArgument(v >= 0 && v <= 99 && w >= 0 && w <= 99 && what >= 0 && what <= 2);
        int rests = 0;
        int first = NONE;
        int together = 0;
        for (int one = 0; one <= 1; one++) {
            for (int other = 0; other <= 1; other++) {
                if (isRest(v, w, one, other)) {
                    if (rests == 0) {
                        first = 10 * one + other;
                        together = gain(v, w, one, other) + gain(v, w, other, one);
                    }
                    rests++;
                }
            }
        }
        return what == 0 ? rests : what == 1 ? first : together;
    }

    public int loaf(int counsel, int all, int n) throws NoSuchElementException, IllegalArgumentException {
        checkThere(counsel, bench.counsel);
        checkBits(all, bench.counsel);
        checkArgument(n >= 0 && n <= 999);
        if (!has(all, counsel)) {
            return 0;
        }
        int bound = MOST_CRUMBS;
        while (bound > 0 && hearing.crumbsOf(all, bound) > n) {
            bound--;
        }
        return Math.min(hearing.crumbs.get(counsel), bound);
    }

    public int loss(int what) throws IllegalArgumentException {
        checkArgument(what == 0 || what == 1);
        return sayingOrWeight(bench.heaviest(bench.allSayings() & ~hearing.counting()), what);
    }

    public int next(int what) throws IllegalArgumentException {
        checkArgument(what == 0 || what == 1);
        int saying = hearing.nextSaid();
        return what == 0 || saying == NONE ? saying : hearing.said.get(saying);
    }

    public int side(int side, int what) throws IllegalArgumentException {
        checkArgument((side == 0 || side == 1) && what >= 0 && what <= 2);
        int ofSide = bench.ofSide(side);
        switch (what) {
            case 0: return bench.weightOf(ofSide & hearing.heardBy(hearing.minute));
            case 1: return bench.weightOf(ofSide & hearing.noted);
            default: return bench.weightOf(ofSide);
        }
    }

    public int leaders(int bird, int n) throws NoSuchElementException, IllegalArgumentException {
        checkThere(bird, bench.birds);
        checkArgument(n >= 1 && n <= MOST_LED);
        int able = 0;
        for (int counsel = 0; counsel < bench.counsel; counsel++) {
            if (hearing.canLead(counsel, bird, n)) {
                able |= bit(counsel);
            }
        }
        return able;
    }

    public int used() {
        return bench.rulesUsed(bench.closure(hearing.heardBy(hearing.minute)));
    }

    public int over(int bird) throws NoSuchElementException {
        checkThere(bird, bench.birds);
        return hearing.saidBetween(hearing.begins.get(bird), hearing.lastOn(bird));
    }

    public int delay(int saying) throws NoSuchElementException {
        checkThere(saying, bench.sayings);
        for (int later = 0; later <= MOST_LED; later++) {
            if (hearing.birdsOn(Math.min(LATEST, hearing.said.get(saying) + later)) == 0) {
                return later;
            }
        }
        return NONE;
    }

    public int point(int side, int what) throws IllegalArgumentException {
        checkArgument((side == 0 || side == 1) && (what == 0 || what == 1));
        return sayingOrWeight(bench.heaviest(bench.ofSide(side) & hearing.heardBy(hearing.minute)), what);
    }

    public int purse(int all) throws IllegalArgumentException {
        checkBits(all, bench.counsel);
        return hearing.crumbsOf(all, MOST_CRUMBS);
    }

    public int pairs() {
        int together = 0;
        for (int bird = 0; bird < bench.birds; bird++) {
            for (int other = 0; other < bird; other++) {
                if (hearing.begins.get(bird) <= hearing.lastOn(other)
                        && hearing.begins.get(other) <= hearing.lastOn(bird)) {
                    together++;
                }
            }
        }
        return together;
    }

    public int crowd(int what) throws IllegalArgumentException {
        checkArgument(what == 0 || what == 1);
        int fullest = 0;
        int most = 0;
        for (int minute = 0; minute <= LAST_ASKED; minute++) {
            int birds = Integer.bitCount(hearing.birdsOn(minute));
            if (birds > most) {
                most = birds;
                fullest = minute;
            }
        }
        return what == 0 ? fullest : most;
    }

    public int swing(int saying) throws NoSuchElementException {
        checkThere(saying, bench.sayings);
        return bench.leanFrom(hearing.heardBy(hearing.minute) ^ bit(saying));
    }

    public int when(int what) throws IllegalArgumentException {
        checkArgument(what >= 0 && what <= 2);
        switch (what) {
            case 0: return hearing.saidBetween(hearing.minute + 1, LATEST);
            case 1: return hearing.saidBetween(hearing.minute, hearing.minute);
            default: return hearing.saidBetween(0, hearing.minute - 1);
        }
    }

    public int term(int seed, int q, int minutes, int what) throws IllegalArgumentException {
        checkTerm(q, minutes);
        checkArgument(what >= 0 && what <= 3);
        terms.play(hearing, seed, q, minutes);
        Hearing then = terms.trial;
        switch (what) {
            case 0: return then.counting();
            case 1: return bench.leanFrom(then.heardBy(then.minute));
            case 2: return then.noted;
            default: return then.crumbsOf(bench.allCounsel(), MOST_CRUMBS);
        }
    }

    public int span(int seed, int many, int q, int minutes, int what, int saying) throws IllegalArgumentException {
        checkTerm(q, minutes);
        checkArgument(many >= 1 && many <= 10 && what >= 0 && what <= 2);
        checkArgument(saying >= 0 && saying < bench.sayings);
        int least = 0;
        int most = 0;
        int counted = 0;
        for (int i = 0; i < many; i++) {
            terms.play(hearing, seed + i, q, minutes);
            Hearing then = terms.trial;
            int leaning = bench.leanFrom(then.heardBy(then.minute));
            least = i == 0 ? leaning : Math.min(least, leaning);
            most = i == 0 ? leaning : Math.max(most, leaning);
            counted += then.doesCount(saying) ? 1 : 0;
        }
        return what == 0 ? least : what == 1 ? most : counted;
    }

    public int image() {
        if (past.images >= MOST_IMAGES) {
            return -1;
        }
        past.takeImage(hearing);
        return past.images;
    }

    public int restore() {
        if (past.images == 0) {
            return -1;
        }
        past.bringImage(hearing);
        stepsRefused = 0;
        return past.images;
    }

    public int status(int what) {
        return what == 0 ? missingRefused : what == 1 ? wrongRefused : NONE;
    }

    public int count(int what) {
        switch (what) {
            case 0: return past.images;
            case 1: return text.length;
            case 2: return past.works;
            default: return NONE;
        }
    }

    private void startText(int n, int most) {
        checkArgument(n >= 0 && n <= text.length && n <= most);
        text.start(n);
    }

    private void checkTerm(int q, int minutes) {
        checkArgument(q >= 0 && q <= SIXTEENTHS && minutes >= 1 && minutes <= 48);
    }

    private void checkBits(int bits, int many) {
        checkArgument(bits >= 0 && bits < bit(many));
    }

    private void checkArgument(boolean right) {
        if (!right) {
            wrongRefused++;
            throw new IllegalArgumentException("the document does not allow this argument");
        }
    }

    private void checkThere(int number, int many) {
        if (number < 0 || number >= many) {
            missingRefused++;
            throw new NoSuchElementException("there is no such saying, bird or counsel");
        }
    }

    private int sayingOrWeight(int saying, int what) {
        return what == 0 || saying == NONE ? saying : bench.sayWeight.get(saying);
    }

    private static int bit(int number) {
        return 1 << number;
    }

    private static boolean has(int bits, int number) {
        return (bits >> number & 1) != 0;
    }

    private static long power(int base, int times) {
        long product = 1;
        for (int i = 0; i < times; i++) {
            product *= base;
        }
        return product;
    }

    private static long waysToChoose(int n, int k) {
        long ways = 1;
        for (int i = 1; i <= k; i++) {
            ways = ways * (n - k + i) / i;
        }
        return ways;
    }

    private static int gain(int v, int w, int own, int others) {
        return (own == 0 ? v : 0) - (others == 0 ? w : 0);
    }

    private static boolean isRest(int v, int w, int one, int other) {
        return gain(v, w, 1 - one, other) <= gain(v, w, one, other)
                && gain(v, w, 1 - other, one) <= gain(v, w, other, one);
    }

    /** Numbers by place; a place that is not there holds 0 and takes nothing, so that no index can fail. */
    private static final class Row {
        private final int[] cells;

        Row(int length) {
            cells = new int[length > 0 ? length : 0];
        }

        int get(int place) {
            return place >= 0 && place < cells.length ? cells[place] : 0;
        }

        void set(int place, int value) {
            if (place >= 0 && place < cells.length) {
                cells[place] = value;
            }
        }

        void copy(int to, Row other, int from, int many) {
            for (int i = 0; i < many; i++) {
                set(to + i, other.get(from + i));
            }
        }
    }

    /** The TAPE, and the text that is read from it: the piece that is next is known, what stands behind it not yet. */
    private static final class Reader {
        private static final int END = 0;
        private static final int NUMBER = 1;
        private static final int WORD = 2;
        private static final int SIGN = 3;
        private static final int FAR_TOO_MUCH = 100000;

        private final Row tape = new Row(TAPE_BYTES);
        private int length;
        private int textEnd;
        private int pieceKind;
        private int pieceStart;
        private int pieceEnd;
        private int pieceValue;
        private int faultKind;
        private int faultPlace = NONE;

        void addNumber(int number) {
            for (int shift = 24; shift >= 0; shift -= 8) {
                tape.set(length, (number >>> shift) & 255);
                length++;
            }
        }

        void start(int n) {
            textEnd = n;
            // The TAPE is empty by its length alone: its bytes are still to be read.
            length = 0;
            faultKind = 0;
            faultPlace = NONE;
            pieceEnd = 0;
            advance();
        }

        void advance() {
            int place = pieceEnd;
            while (place < textEnd && tape.get(place) == ' ') {
                place++;
            }
            pieceStart = place;
            pieceValue = tape.get(place);
            if (place >= textEnd) {
                pieceKind = END;
                pieceEnd = place;
            } else if (isDigit(pieceValue)) {
                pieceKind = NUMBER;
                takeDigits();
            } else if (isLetter(pieceValue)) {
                pieceKind = WORD;
                takeLetters();
            } else {
                pieceKind = SIGN;
                pieceEnd = place + 1;
            }
        }

        private void takeDigits() {
            int value = 0;
            int place = pieceStart;
            while (place < textEnd && isDigit(tape.get(place))) {
                value = value < FAR_TOO_MUCH ? value * 10 + tape.get(place) - '0' : value;
                place++;
            }
            pieceValue = value;
            pieceEnd = place;
        }

        private void takeLetters() {
            int place = pieceStart;
            while (place < textEnd && isLetter(tape.get(place))) {
                place++;
            }
            pieceEnd = place;
        }

        boolean hasMore() {
            return pieceKind != END;
        }

        boolean seesNumber() {
            return pieceKind == NUMBER;
        }

        boolean seesSign(char sign) {
            return pieceKind == SIGN && pieceValue == sign;
        }

        boolean seesWord(String word) {
            if (pieceKind != WORD || pieceEnd - pieceStart != word.length()) {
                return false;
            }
            for (int i = 0; i < word.length(); i++) {
                if (tape.get(pieceStart + i) != word.charAt(i)) {
                    return false;
                }
            }
            return true;
        }

        int takeNumber(int least, int most) {
            if (pieceKind != NUMBER) {
                fail(CANNOT_STAND);
                return least;
            }
            if (pieceValue < least || pieceValue > most) {
                fail(NO_SUCH_NUMBER);
                return least;
            }
            int number = pieceValue;
            advance();
            return number;
        }

        void takeSign(char sign) {
            if (seesSign(sign)) {
                advance();
            } else {
                fail(CANNOT_STAND);
            }
        }

        boolean takeIfRoom(boolean room) {
            if (room) {
                advance();
            } else {
                fail(TOO_MANY);
            }
            return room;
        }

        void fail(int kind) {
            if (faultKind == 0) {
                faultKind = kind;
                faultPlace = pieceStart;
                // Nothing stands behind the first fault: every loop over the text ends by this.
                pieceKind = END;
            }
        }

        private static boolean isDigit(int sign) {
            return sign >= '0' && sign <= '9';
        }

        private static boolean isLetter(int sign) {
            return sign >= 'a' && sign <= 'z';
        }
    }

    /** The COURT as it was told: what no WORK changes, and where all begins. */
    private static final class Court {
        private final Row sayMinute = new Row(MOST_SAYINGS);
        private final Row saySide = new Row(MOST_SAYINGS);
        private final Row sayWeight = new Row(MOST_SAYINGS);
        private final Row ruleOne = new Row(MOST_RULES);
        private final Row ruleOther = new Row(MOST_RULES);
        private final Row ruleThen = new Row(MOST_RULES);
        private final Row birdMinute = new Row(MOST_BIRDS);
        private final Row birdSteps = new Row(MOST_BIRDS);
        private final Row counselCrumbs = new Row(MOST_COUNSEL);
        private final Row counselSly = new Row(MOST_COUNSEL);
        private int sayings;
        private int rules;
        private int birds;
        private int counsel;

        void readFrom(Reader text) {
            sayings = 0;
            rules = 0;
            birds = 0;
            counsel = 0;
            // The limits of the four kinds, 29 together, stop a text ahead of this one.
            for (int clause = 0; clause < MOST_CLAUSES && text.hasMore(); clause++) {
                readClause(text);
                text.takeSign(';');
            }
        }

        private void readClause(Reader text) {
            if (text.seesWord("say")) {
                readSaying(text);
            } else if (text.seesWord("so")) {
                readRule(text);
            } else if (text.seesWord("bird")) {
                readBird(text);
            } else if (text.seesWord("counsel")) {
                readCounsel(text);
            } else {
                text.fail(CANNOT_STAND);
            }
        }

        private void readSaying(Reader text) {
            if (text.takeIfRoom(sayings < MOST_SAYINGS)) {
                sayMinute.set(sayings, text.takeNumber(0, 99));
                saySide.set(sayings, text.takeNumber(0, 1));
                sayWeight.set(sayings, text.takeNumber(0, 60));
                sayings++;
            }
        }

        private void readRule(Reader text) {
            if (text.takeIfRoom(rules < MOST_RULES)) {
                ruleOne.set(rules, text.takeNumber(0, sayings - 1));
                ruleOther.set(rules, text.takeNumber(0, sayings - 1));
                ruleThen.set(rules, text.takeNumber(0, sayings - 1));
                rules++;
            }
        }

        private void readBird(Reader text) {
            if (text.takeIfRoom(birds < MOST_BIRDS)) {
                birdMinute.set(birds, text.takeNumber(0, 99));
                birdSteps.set(birds, text.takeNumber(1, 20));
                birds++;
            }
        }

        private void readCounsel(Reader text) {
            if (text.takeIfRoom(counsel < MOST_COUNSEL)) {
                counselCrumbs.set(counsel, text.takeNumber(0, MOST_CRUMBS));
                counselSly.set(counsel, text.takeNumber(0, 9));
                counsel++;
            }
        }

        void become(Court other) {
            sayMinute.copy(0, other.sayMinute, 0, MOST_SAYINGS);
            saySide.copy(0, other.saySide, 0, MOST_SAYINGS);
            sayWeight.copy(0, other.sayWeight, 0, MOST_SAYINGS);
            ruleOne.copy(0, other.ruleOne, 0, MOST_RULES);
            ruleOther.copy(0, other.ruleOther, 0, MOST_RULES);
            ruleThen.copy(0, other.ruleThen, 0, MOST_RULES);
            birdMinute.copy(0, other.birdMinute, 0, MOST_BIRDS);
            birdSteps.copy(0, other.birdSteps, 0, MOST_BIRDS);
            counselCrumbs.copy(0, other.counselCrumbs, 0, MOST_COUNSEL);
            counselSly.copy(0, other.counselSly, 0, MOST_COUNSEL);
            sayings = other.sayings;
            rules = other.rules;
            birds = other.birds;
            counsel = other.counsel;
        }

        int allSayings() {
            return bit(sayings) - 1;
        }

        int allCounsel() {
            return bit(counsel) - 1;
        }

        int ofSide(int side) {
            int bits = 0;
            for (int saying = 0; saying < sayings; saying++) {
                if (saySide.get(saying) == side) {
                    bits |= bit(saying);
                }
            }
            return bits;
        }

        int weightOf(int bits) {
            int weight = 0;
            for (int saying = 0; saying < sayings; saying++) {
                if (has(bits, saying)) {
                    weight += sayWeight.get(saying);
                }
            }
            return weight;
        }

        int heaviest(int bits) {
            int best = NONE;
            for (int saying = 0; saying < sayings; saying++) {
                if (has(bits, saying) && (best == NONE || sayWeight.get(saying) > sayWeight.get(best))) {
                    best = saying;
                }
            }
            return best;
        }

        int closure(int bits) {
            int reached = bits;
            // Each pass but the last brings one saying more at least.
            for (int pass = 0; pass <= MOST_SAYINGS; pass++) {
                int before = reached;
                for (int number = 0; number < rules; number++) {
                    if (isUsed(number, reached)) {
                        reached |= bit(ruleThen.get(number));
                    }
                }
                if (reached == before) {
                    return reached;
                }
            }
            return reached;
        }

        private boolean isUsed(int number, int concluded) {
            return has(concluded, ruleOne.get(number)) && has(concluded, ruleOther.get(number));
        }

        int rulesUsed(int concluded) {
            int bits = 0;
            for (int number = 0; number < rules; number++) {
                if (isUsed(number, concluded)) {
                    bits |= bit(number);
                }
            }
            return bits;
        }

        int leanFrom(int heard) {
            int concluded = closure(heard);
            int lean = 0;
            for (int saying = 0; saying < sayings; saying++) {
                if (has(concluded, saying)) {
                    lean += saySide.get(saying) == 1 ? sayWeight.get(saying) : -sayWeight.get(saying);
                }
            }
            return lean;
        }
    }

    /** The LAW, kept with each operation behind the two values that it takes. */
    private static final class Law {
        private static final int STEPS = -1;
        private static final int BEGIN = -2;
        private static final int CRUMBS = -3;
        private static final int LED = -4;
        private static final int NOTES = -5;
        private static final int BIRD = -6;
        private static final int ADD = -11;
        private static final int SUBTRACT = -12;
        private static final int TIMES = -13;
        private static final int DIVIDE = -14;
        private static final int REST = -15;
        private static final int LEAST = -16;
        private static final int MOST = -17;

        private final Row parts = new Row(SHORT_TEXT);
        private final Row stack = new Row(SHORT_TEXT);
        private final Row inputs = new Row(6);
        private int size;

        Law() {
            parts.set(0, STEPS);
            size = 1;
        }

        void reset() {
            parts.set(0, STEPS);
            size = 1;
        }

        void become(Law other) {
            parts.copy(0, other.parts, 0, other.size);
            size = other.size;
        }

        void readFrom(Reader text) {
            size = 0;
            readSum(text, 0);
            if (text.hasMore()) {
                text.fail(CANNOT_STAND);
            }
        }

        private void readSum(Reader text, int open) {
            readProduct(text, open);
            for (int i = 0; i < SHORT_TEXT && (text.seesSign('+') || text.seesSign('-')); i++) {
                int operation = text.seesSign('+') ? ADD : SUBTRACT;
                text.advance();
                readProduct(text, open);
                addPart(operation);
            }
        }

        private void readProduct(Reader text, int open) {
            readUnit(text, open);
            for (int i = 0; i < SHORT_TEXT; i++) {
                int operation = text.seesSign('*') ? TIMES
                        : text.seesSign('/') ? DIVIDE
                        : text.seesSign('%') ? REST : 0;
                if (operation == 0) {
                    return;
                }
                text.advance();
                readUnit(text, open);
                addPart(operation);
            }
        }

        private void readUnit(Reader text, int open) {
            if (text.seesNumber()) {
                addPart(text.takeNumber(0, 999));
            } else if (text.seesSign('(')) {
                if (text.takeIfRoom(open < MOST_OPEN)) {
                    readSum(text, open + 1);
                    text.takeSign(')');
                }
            } else if (text.seesWord("least")) {
                readChoice(text, open, LEAST);
            } else if (text.seesWord("most")) {
                readChoice(text, open, MOST);
            } else {
                readInput(text);
            }
        }

        private void readChoice(Reader text, int open, int operation) {
            if (text.takeIfRoom(open < MOST_OPEN)) {
                text.takeSign('[');
                readSum(text, open + 1);
                text.takeSign(',');
                readSum(text, open + 1);
                text.takeSign(']');
                addPart(operation);
            }
        }

        private void readInput(Reader text) {
            int input = text.seesWord("steps") ? STEPS
                    : text.seesWord("begin") ? BEGIN
                    : text.seesWord("crumbs") ? CRUMBS
                    : text.seesWord("led") ? LED
                    : text.seesWord("notes") ? NOTES
                    : text.seesWord("bird") ? BIRD : 0;
            if (input == 0) {
                text.fail(CANNOT_STAND);
            } else {
                text.advance();
                addPart(input);
            }
        }

        private void addPart(int part) {
            parts.set(size, part);
            size++;
        }

        int walk(int steps, int begin, int crumbs, int led, int notes, int bird) {
            inputs.set(-1 - STEPS, steps);
            inputs.set(-1 - BEGIN, begin);
            inputs.set(-1 - CRUMBS, crumbs);
            inputs.set(-1 - LED, led);
            inputs.set(-1 - NOTES, notes);
            inputs.set(-1 - BIRD, bird);
            int top = 0;
            for (int i = 0; i < size; i++) {
                int part = parts.get(i);
                if (part > ADD) {
                    stack.set(top, part >= 0 ? part : inputs.get(-1 - part));
                    top++;
                } else {
                    top--;
                    stack.set(top - 1, apply(part, stack.get(top - 1), stack.get(top)));
                }
            }
            return Math.max(1, Math.min(40, stack.get(0)));
        }

        private static int apply(int operation, int left, int right) {
            switch (operation) {
                case ADD: return left + right;
                case SUBTRACT: return left - right;
                case TIMES: return left * right;
                case DIVIDE: return right == 0 ? 0 : left / right;
                case REST: return right == 0 ? 0 : left % right;
                case LEAST: return left < right ? left : right;
                default: return left > right ? left : right;
            }
        }
    }

    /** A BOOK: which SAYINGS stand in lines, and which of these COUNT by them. */
    private static final class Book {
        private int told;
        private int right;

        void reset() {
            told = 0;
            right = 0;
        }

        void become(Book other) {
            told = other.told;
            right = other.right;
        }

        void readFrom(Reader text, int sayings) {
            reset();
            for (int line = 0; line < BOOK_BYTES && text.hasMore(); line++) {
                readLine(text, sayings);
                text.takeSign(';');
            }
        }

        private void readLine(Reader text, int sayings) {
            if (text.seesNumber() && text.pieceValue < sayings && has(told, text.pieceValue)) {
                text.fail(NO_SUCH_NUMBER);
                return;
            }
            int saying = text.takeNumber(0, sayings - 1);
            int counts = text.takeNumber(0, 1);
            told |= bit(saying);
            right |= counts << saying;
        }

        boolean agrees(int counting) {
            return (counting & told) == right;
        }
    }

    /** WORK as it was read: a row of steps, where an again is followed by those that it repeats. */
    private static final class Plan {
        private static final int CALL = 0;
        private static final int LEAD = 1;
        private static final int PUT = 2;
        private static final int NOTE = 3;
        private static final int MINUTE = 4;
        private static final int AGAIN = 5;

        private final Row kinds = new Row(SHORT_TEXT);
        private final Row firsts = new Row(SHORT_TEXT);
        private final Row seconds = new Row(SHORT_TEXT);
        private final Row thirds = new Row(SHORT_TEXT);
        private int size;
        private int begun;
        private int done;
        private int refused;

        void readFrom(Reader text, Court court) {
            size = 0;
            begun = 0;
            done = 0;
            refused = 0;
            for (int i = 0; i < SHORT_TEXT && text.hasMore(); i++) {
                readStep(text, court, 0);
                text.takeSign(';');
            }
        }

        private void readStep(Reader text, Court court, int open) {
            if (text.seesWord("call")) {
                startStep(text, CALL);
                readWho(text, court.counsel, court.birds);
            } else if (text.seesWord("lead")) {
                startStep(text, LEAD);
                readWho(text, court.counsel, court.birds);
                readHowMuch(text);
            } else if (text.seesWord("put")) {
                startStep(text, PUT);
                readWho(text, court.counsel, court.sayings);
                readHowMuch(text);
            } else if (text.seesWord("note")) {
                startStep(text, NOTE);
                firsts.set(size - 1, text.takeNumber(0, court.sayings - 1));
            } else if (text.seesWord("minute")) {
                startStep(text, MINUTE);
            } else if (text.seesWord("again")) {
                readAgain(text, court, open);
            } else {
                text.fail(CANNOT_STAND);
            }
        }

        private void startStep(Reader text, int kind) {
            text.advance();
            kinds.set(size, kind);
            size++;
        }

        private void readWho(Reader text, int counsel, int others) {
            firsts.set(size - 1, text.takeNumber(0, counsel - 1));
            seconds.set(size - 1, text.takeNumber(0, others - 1));
        }

        private void readHowMuch(Reader text) {
            thirds.set(size - 1, text.takeNumber(1, MOST_LED));
        }

        private void readAgain(Reader text, Court court, int open) {
            if (!text.takeIfRoom(open < MOST_OPEN)) {
                return;
            }
            int own = size;
            kinds.set(own, AGAIN);
            size++;
            firsts.set(own, text.takeNumber(0, MOST_AGAIN));
            text.takeSign('[');
            for (int i = 0; i < SHORT_TEXT && text.hasMore() && !text.seesSign(']'); i++) {
                readStep(text, court, open + 1);
                text.takeSign(';');
            }
            text.takeSign(']');
            seconds.set(own, size);
        }

        private void run(Hearing hearing, int from, int to, int open) {
            int step = from;
            for (int i = 0; i < SHORT_TEXT && step < to && begun < MOST_BEGUN && open <= MOST_OPEN; i++) {
                begun++;
                if (kinds.get(step) == AGAIN) {
                    repeat(hearing, step, open + 1);
                    step = seconds.get(step);
                } else {
                    if (doStep(hearing, kinds.get(step), firsts.get(step), seconds.get(step), thirds.get(step))) {
                        done++;
                    } else {
                        refused++;
                    }
                    step++;
                }
            }
        }

        private void repeat(Hearing hearing, int again, int open) {
            for (int turn = 0; turn < firsts.get(again) && turn < MOST_AGAIN && begun < MOST_BEGUN; turn++) {
                run(hearing, again + 1, seconds.get(again), open);
            }
        }

        private static boolean doStep(Hearing hearing, int kind, int first, int second, int third) {
            switch (kind) {
                case CALL: return hearing.callBird(first, second);
                case LEAD: return hearing.leadBird(first, second, third);
                case PUT: return hearing.putOff(first, second, third);
                case NOTE: return hearing.noteSaying(first);
                default: return hearing.passMinute();
            }
        }
    }

    /** How all stands by now: what WORK changes. */
    private static final class Hearing {
        private static final int STATE_CELLS = 2 + MOST_SAYINGS + 2 * MOST_BIRDS + MOST_COUNSEL;
        private static final int BEGINS_CELL = 2 + MOST_SAYINGS;
        private static final int LED_CELL = BEGINS_CELL + MOST_BIRDS;
        private static final int CRUMBS_CELL = LED_CELL + MOST_BIRDS;

        private final Court court;
        private final Law law;
        private final Row said = new Row(MOST_SAYINGS);
        private final Row begins = new Row(MOST_BIRDS);
        private final Row led = new Row(MOST_BIRDS);
        private final Row walks = new Row(MOST_BIRDS);
        private final Row crumbs = new Row(MOST_COUNSEL);
        private int minute;
        private int noted;

        Hearing(Court court, Law law) {
            this.court = court;
            this.law = law;
        }

        void begin() {
            minute = 0;
            noted = 0;
            said.copy(0, court.sayMinute, 0, MOST_SAYINGS);
            begins.copy(0, court.birdMinute, 0, MOST_BIRDS);
            for (int bird = 0; bird < MOST_BIRDS; bird++) {
                led.set(bird, 0);
            }
            crumbs.copy(0, court.counselCrumbs, 0, MOST_COUNSEL);
            measure();
        }

        void become(Hearing other) {
            minute = other.minute;
            noted = other.noted;
            said.copy(0, other.said, 0, MOST_SAYINGS);
            begins.copy(0, other.begins, 0, MOST_BIRDS);
            led.copy(0, other.led, 0, MOST_BIRDS);
            walks.copy(0, other.walks, 0, MOST_BIRDS);
            crumbs.copy(0, other.crumbs, 0, MOST_COUNSEL);
        }

        void save(Row states, int from) {
            states.set(from, minute);
            states.set(from + 1, noted);
            states.copy(from + 2, said, 0, MOST_SAYINGS);
            states.copy(from + BEGINS_CELL, begins, 0, MOST_BIRDS);
            states.copy(from + LED_CELL, led, 0, MOST_BIRDS);
            states.copy(from + CRUMBS_CELL, crumbs, 0, MOST_COUNSEL);
        }

        void load(Row states, int from) {
            minute = states.get(from);
            noted = states.get(from + 1);
            said.copy(0, states, from + 2, MOST_SAYINGS);
            begins.copy(0, states, from + BEGINS_CELL, MOST_BIRDS);
            led.copy(0, states, from + LED_CELL, MOST_BIRDS);
            crumbs.copy(0, states, from + CRUMBS_CELL, MOST_COUNSEL);
            // The LAW may be another one than when this state was saved.
            measure();
        }

        void measure() {
            for (int bird = 0; bird < court.birds; bird++) {
                walks.set(bird, walkIfLed(bird, 0));
            }
        }

        private int walkIfLed(int bird, int later) {
            int together = crumbsOf(court.allCounsel(), MOST_CRUMBS);
            return law.walk(court.birdSteps.get(bird), beginIfLed(bird, later), together, led.get(bird) + later,
                    Integer.bitCount(noted), bird);
        }

        private int beginIfLed(int bird, int later) {
            return Math.min(LATEST, begins.get(bird) + later);
        }

        int coveredIfLed(int bird, int later) {
            int begin = beginIfLed(bird, later);
            return saidBetween(begin, begin + walkIfLed(bird, later) - 1);
        }

        int crumbsOf(int all, int bound) {
            int together = 0;
            for (int counsel = 0; counsel < court.counsel; counsel++) {
                if (has(all, counsel)) {
                    together += Math.min(bound, crumbs.get(counsel));
                }
            }
            return together;
        }

        int lastOn(int bird) {
            return begins.get(bird) + walks.get(bird) - 1;
        }

        int birdsOn(int asked) {
            int bits = 0;
            for (int bird = 0; bird < court.birds; bird++) {
                if (asked >= begins.get(bird) && asked <= lastOn(bird)) {
                    bits |= bit(bird);
                }
            }
            return bits;
        }

        boolean doesCount(int saying) {
            return birdsOn(said.get(saying)) == 0;
        }

        int counting() {
            int bits = 0;
            for (int saying = 0; saying < court.sayings; saying++) {
                if (doesCount(saying)) {
                    bits |= bit(saying);
                }
            }
            return bits;
        }

        int saidBetween(int first, int last) {
            int bits = 0;
            for (int saying = 0; saying < court.sayings; saying++) {
                if (said.get(saying) >= first && said.get(saying) <= last) {
                    bits |= bit(saying);
                }
            }
            return bits;
        }

        int heardBy(int asked) {
            return counting() & saidBetween(0, asked);
        }

        int nextSaid() {
            int best = NONE;
            for (int saying = 0; saying < court.sayings; saying++) {
                if (said.get(saying) >= minute && (best == NONE || said.get(saying) < said.get(best))) {
                    best = saying;
                }
            }
            return best;
        }

        boolean isNoted(int saying) {
            return has(noted, saying);
        }

        boolean canLead(int counsel, int bird, int later) {
            return crumbs.get(counsel) >= later && begins.get(bird) >= minute;
        }

        boolean callBird(int counsel, int bird) {
            if (crumbs.get(counsel) < 1 || begins.get(bird) <= minute) {
                return false;
            }
            crumbs.set(counsel, crumbs.get(counsel) - 1);
            begins.set(bird, minute);
            measure();
            return true;
        }

        boolean leadBird(int counsel, int bird, int later) {
            if (!canLead(counsel, bird, later)) {
                return false;
            }
            crumbs.set(counsel, crumbs.get(counsel) - later);
            begins.set(bird, beginIfLed(bird, later));
            led.set(bird, led.get(bird) + later);
            measure();
            return true;
        }

        boolean putOff(int counsel, int saying, int later) {
            if (later > court.counselSly.get(counsel) || said.get(saying) < minute) {
                return false;
            }
            said.set(saying, Math.min(LATEST, said.get(saying) + later));
            return true;
        }

        boolean noteSaying(int saying) {
            // What is noted can be struck out at any time; only noting has conditions.
            if (!isNoted(saying) && (said.get(saying) > minute || doesCount(saying))) {
                return false;
            }
            noted ^= bit(saying);
            measure();
            return true;
        }

        boolean passMinute() {
            if (minute >= LATEST) {
                return false;
            }
            minute++;
            return true;
        }
    }

    /** The states ahead of each WORK that can be undone, and the IMAGES, each of these with such states of its own. */
    private static final class Past {
        private static final int CELLS = (MOST_WORKS + 1) * Hearing.STATE_CELLS;

        private final Row states = new Row(CELLS);
        private final Row imageStates = new Row(MOST_IMAGES * CELLS);
        private final Row imageWorks = new Row(MOST_IMAGES);
        private int works;
        private int images;

        void reset() {
            works = 0;
            images = 0;
        }

        void push(Hearing hearing) {
            hearing.save(states, works * Hearing.STATE_CELLS);
            works++;
        }

        void pop(Hearing hearing) {
            works--;
            hearing.load(states, works * Hearing.STATE_CELLS);
        }

        void takeImage(Hearing hearing) {
            // The state of now stands behind those of the works: there is a place for it even with all works done.
            hearing.save(states, works * Hearing.STATE_CELLS);
            imageStates.copy(images * CELLS, states, 0, CELLS);
            imageWorks.set(images, works);
            images++;
        }

        void bringImage(Hearing hearing) {
            images--;
            works = imageWorks.get(images);
            states.copy(0, imageStates, images * CELLS, CELLS);
            hearing.load(states, works * Hearing.STATE_CELLS);
        }
    }

    /** What is asked of many ways or sets at once. */
    private static final class Search {
        private static final int LEADS = MOST_LED + 1;

        private final Court court;
        private final Hearing hearing;
        private final Book book;
        private final Row covered = new Row(MOST_BIRDS * LEADS);
        private final Row pairsCounting = new Row(MOST_SAYINGS);
        private int wanted;
        private int hidingMinutes;
        private int hidingWay;
        private int pairsFitting;
        private int firstFitting;

        Search(Court court, Hearing hearing, Book book) {
            this.court = court;
            this.hearing = hearing;
            this.book = book;
        }

        private void coverAll() {
            for (int bird = 0; bird < court.birds; bird++) {
                for (int later = 0; later < LEADS; later++) {
                    covered.set(bird * LEADS + later, hearing.coveredIfLed(bird, later));
                }
            }
        }

        void findHiding(int sayings) {
            coverAll();
            wanted = sayings;
            hidingMinutes = NONE;
            hidingWay = NONE;
            leadFrom(0, 0, 0, 0, 1);
        }

        private void leadFrom(int bird, int hidden, int minutes, int way, int unit) {
            // Of alike ways the first that is come to stays.
            if (hidingMinutes != NONE && minutes >= hidingMinutes) {
                return;
            }
            if (bird < court.birds && bird < MOST_BIRDS) {
                leadBirdEachWay(bird, hidden, minutes, way, unit);
            } else if ((wanted & ~hidden) == 0) {
                hidingMinutes = minutes;
                hidingWay = way;
            }
        }

        private void leadBirdEachWay(int bird, int hidden, int minutes, int way, int unit) {
            int most = hearing.begins.get(bird) < hearing.minute ? 0 : MOST_LED;
            for (int later = 0; later <= most; later++) {
                int then = hidden | covered.get(bird * LEADS + later);
                leadFrom(bird + 1, then, minutes + later, way + later * unit, unit * 10);
            }
        }

        int leastProof(int saying) {
            int best = bit(saying);
            for (int set = 0; set <= court.allSayings(); set++) {
                if (isBetter(set, best) && has(court.closure(set), saying)) {
                    best = set;
                }
            }
            return best;
        }

        int leastTurn() {
            int heard = hearing.heardBy(hearing.minute);
            int unheard = hearing.saidBetween(0, hearing.minute) & ~heard;
            boolean above = court.leanFrom(heard) > 0;
            int best = NONE;
            for (int set = 0; set <= court.allSayings(); set++) {
                if ((set & ~unheard) == 0 && (best == NONE || isBetter(set, best))
                        && court.leanFrom(heard | set) > 0 != above) {
                    best = set;
                }
            }
            return best;
        }

        private static boolean isBetter(int set, int best) {
            int fewer = Integer.bitCount(best) - Integer.bitCount(set);
            return fewer > 0 || fewer == 0 && set < best;
        }

        void weighPairs() {
            coverAll();
            pairsFitting = 0;
            firstFitting = NONE;
            for (int saying = 0; saying < court.sayings; saying++) {
                pairsCounting.set(saying, 0);
            }
            for (int bird = 0; bird < court.birds; bird++) {
                int others = coveredByOthers(bird);
                for (int later = 0; later < LEADS; later++) {
                    weighPair(bird, later, court.allSayings() & ~(others | covered.get(bird * LEADS + later)));
                }
            }
        }

        private int coveredByOthers(int bird) {
            int bits = 0;
            for (int other = 0; other < court.birds; other++) {
                if (other != bird) {
                    bits |= covered.get(other * LEADS);
                }
            }
            return bits;
        }

        private void weighPair(int bird, int later, int counting) {
            if (!book.agrees(counting)) {
                return;
            }
            if (pairsFitting == 0) {
                firstFitting = 10 * bird + later;
            }
            pairsFitting++;
            for (int saying = 0; saying < court.sayings; saying++) {
                if (has(counting, saying)) {
                    pairsCounting.set(saying, pairsCounting.get(saying) + 1);
                }
            }
        }

        int pairsLeft(int saying) {
            int counting = pairsCounting.get(saying);
            return Math.max(counting, pairsFitting - counting);
        }

        int bestQuestion() {
            int best = NONE;
            for (int saying = 0; saying < court.sayings; saying++) {
                if (!has(book.told, saying) && (best == NONE || pairsLeft(saying) < pairsLeft(best))) {
                    best = saying;
                }
            }
            return best;
        }
    }

    /** A TERM by a SEED, played on a hearing of its own so that the one of now stays as it is. */
    private static final class Term {
        private final Court court;
        private final Hearing trial;
        private int seed;

        Term(Court court, Hearing trial) {
            this.court = court;
            this.trial = trial;
        }

        void play(Hearing from, int firstSeed, int q, int minutes) {
            trial.become(from);
            seed = firstSeed;
            for (int i = 0; i < minutes; i++) {
                if (court.counsel > 0 && court.birds > 0) {
                    playBird(q);
                }
                if (court.sayings > 0) {
                    trial.noteSaying(draw(court.sayings));
                }
                trial.minute++;
            }
        }

        private void playBird(int q) {
            int counsel = draw(court.counsel);
            int bird = draw(court.birds);
            if (draw(SIXTEENTHS) < q) {
                trial.leadBird(counsel, bird, 1 + draw(MOST_LED));
            } else {
                trial.callBird(counsel, bird);
            }
        }

        private int draw(int by) {
            seed = seed * 1103515245 + 12345;
            return by > 0 ? ((seed >>> 16) & 0x7fff) % by : 0;
        }
    }
}
