/** Each promise by hand-counted answers: what is ordinary, the edges that the document names, and wrong inputs. */
public final class PromiseTest {
    /** Two BIRDS: ON at 4 to 6 and at 20 to 21; SAYINGS 0 to 3 for 1, 0, 1, 0; 0 and 1 give 2, 2 gives 3. */
    private static final String FARM = "say 2 1 9;say 5 0 4;say 8 1 6;say 8 0 20;so 0 1 2;so 2 2 3;"
            + "bird 4 3;bird 20 2;counsel 9 2;counsel 1 0;";
    private static final int MIN = Integer.MIN_VALUE;
    private static final int MAX = Integer.MAX_VALUE;

    private static final Check CHECK = new Check();

    private static void same(String what, long got, long due) {
        CHECK.same(what, got, due);
    }

    private static String times(int n, String text) {
        return text.repeat(n);
    }

    private static CourtMoorhens farm() {
        return Check.with(FARM);
    }

    private static void fault(String text, int answer, int kind, int place, CourtMoorhens x) {
        same("'" + text + "'", answer, kind - 10);
        same("fault() of '" + text + "'", x.fault(), place);
        same("the TAPE behind '" + text + "'", x.count(1), 0);
    }

    private static void courtFault(String text, int kind, int place) {
        CourtMoorhens x = new CourtMoorhens();
        fault(text, Check.court(x, text), kind, place, x);
    }

    private static void lawFault(String text, int kind, int place) {
        CourtMoorhens x = new CourtMoorhens();
        fault(text, Check.law(x, text), kind, place, x);
    }

    private static void workFault(String text, int kind, int place) {
        CourtMoorhens x = farm();
        fault(text, Check.work(x, text), kind, place, x);
    }

    private static void bookFault(String text, int kind, int place) {
        CourtMoorhens x = farm();
        fault(text, Check.book(x, text), kind, place, x);
    }

    // ---- 1 to 6: texts

    private static void newObject() {
        CourtMoorhens x = new CourtMoorhens();
        for (int what = 0; what <= 11; what++) {
            same("new told " + what, x.told(what), 0);
        }
        same("new lean", x.lean(), 0);
        same("new law is steps", x.would(7, 1, 2, 3, 4, 2), 7);
        same("new fault", x.fault(), -1);
        same("new undo", x.undo(), -1);
        same("new restore", x.restore(), -1);
        for (int what = 0; what <= 2; what++) {
            same("new count " + what, x.count(what), 0);
        }
        same("new status 0", x.status(0), 0);
        same("new status 1", x.status(1), 0);
        same("new clear", x.clear(), 500);
        same("new turn", x.turn(), -1);
        same("new hide", x.hide(0, 0), 0);
        same("new used", x.used(), 0);
        CHECK.refusesMissing("new saying 0", () -> x.saying(0, 0));
        CHECK.refusesMissing("new bird 0", () -> x.bird(0, 0));
        CHECK.refusesMissing("new counsel 0", () -> x.counsel(0, 0));
        CourtMoorhens other = farm();
        same("objects share nothing", x.told(0) * 10 + other.told(0), 4);
    }

    private static void feed() {
        CourtMoorhens x = new CourtMoorhens();
        for (int i = 1; i <= 30; i++) {
            same("feed " + i, x.feed(0x20202020, 0x20202020, 0x20202020, 0x20202020, 0x20202020), 20 * i);
        }
        same("feed 31", x.feed(0x73617920, 0, 0, 0, 0), -1);
        same("the TAPE is full", x.count(1), 600);
        same("600 blanks are a COURT", x.court(600), 0);
        same("feed after court", x.feed(0x73617931, 0x20312039, 0x3b202020, 0x73617932, 0x20302038), 20);
        same("bytes come the highest first", x.court(9), 1);
        same("its minute", x.saying(0, 0), 1);
        same("its side", x.saying(0, 1), 1);
        same("its weight", x.saying(0, 2), 9);
        same("feed", x.feed(1, 2, 3, 4, 5), 20);
        same("feed of signs above 127", x.feed(-1, -1, -1, -1, 0x80808080), 40);
        same("a sign above 127 can't stand", x.court(40), -9);
        same("at its first", x.fault(), 0);
    }

    private static void courts() {
        CourtMoorhens x = new CourtMoorhens();
        same("court", Check.court(x, FARM), 4);
        same("no fault", x.fault(), -1);
        same("sayings", x.told(0), 4);
        same("rules", x.told(1), 2);
        same("birds", x.told(2), 2);
        same("counsel", x.told(3), 2);
        same("the tape is empty", x.count(1), 0);
        same("empty court", Check.court(x, ""), 0);
        same("only blanks", Check.court(x, "   "), 0);
        same("blanks everywhere", Check.court(x, "  say  01 0   0060 ;bird 2 3 ; "), 1);
        same("no blanks but between numbers", Check.court(x, "say99 1 60;so0 0 0;bird99 20;counsel40 9;"), 1);
        same("limit of minute", x.saying(0, 0), 99);
        same("limit of weight", x.saying(0, 2), 60);
        same("limit of steps", x.bird(0, 1), 20);
        same("limit of crumbs", x.counsel(0, 0), 40);
        same("limit of sly", x.counsel(0, 1), 9);
        same("least of all", Check.court(x, "bird 0 1;counsel 0 0;say 0 0 0;"), 1);
        String full = times(9, "say 1 1 1;") + times(12, "so 0 8 3;") + times(4, "bird 1 1;") + times(4, "counsel 1 1;");
        same("all that a court can hold", Check.court(x, full), 9);
        same("its rules", x.told(1), 12);
        same("its birds", x.told(2), 4);
        same("its counsel", x.told(3), 4);
        fullCourt();
        courtFaults();
        courtLeavesAll();
        courtEmpties();
    }

    /** Every place of a COURT is held, kept by IMAGES and undo, and found again. */
    private static void fullCourt() {
        StringBuilder text = new StringBuilder();
        for (int saying = 0; saying < 9; saying++) {
            text.append("say ").append(10 + saying).append(' ').append(1 - saying % 2).append(' ');
            text.append(20 + saying).append(';');
        }
        text.append("so 8 8 7;so 7 7 6;").append(times(9, "so 0 0 0;")).append("so 6 7 8;");
        for (int bird = 0; bird < 4; bird++) {
            text.append("bird ").append(60 + 10 * bird).append(' ').append(1 + bird).append(';');
            text.append("counsel ").append(30 + bird).append(' ').append(5 + bird).append(';');
        }
        CourtMoorhens x = Check.with(text.toString());
        fullIs(x, 0);
        same("the last rule", x.follows(0x80) + x.follows(0xc0), 0x1c0 + 0x1c0);
        Check.work(x, "lead 0 0 1;lead 1 1 2;lead 2 2 3;lead 3 3 4;" + times(4, "put 3 8 5;") + "put 3 0 1;put 3 1 2;again 5[minute;];");
        x.image();
        same("the last is put off", x.saying(8, 0), 38);
        Check.work(x, "lead 3 0 4;lead 2 1 3;lead 1 2 2;lead 0 3 1;put 0 8 5;put 0 0 5;again 5[minute;];");
        fullLed(x, 10, new int[] {5, 5, 5, 5}, new int[] {2, 4, 6, 8}, 43);
        same("counsel led both", x.purse(15), 126 - 20);
        same("a term changes none of it", x.term(99, 16, 48, 3) < 126 - 20 ? 1 : 0, 1);
        fullLed(x, 10, new int[] {5, 5, 5, 5}, new int[] {2, 4, 6, 8}, 43);
        x.undo();
        fullLed(x, 5, new int[] {1, 2, 3, 4}, new int[] {1, 2, 3, 4}, 38);
        same("the second, undone", x.saying(0, 0) * 100 + x.saying(1, 0), 1113);
        x.undo();
        fullIs(x, 0);
        Check.work(x, "minute;");
        x.restore();
        fullLed(x, 5, new int[] {1, 2, 3, 4}, new int[] {1, 2, 3, 4}, 38);
        x.undo();
        fullIs(x, 0);
        Check.work(x, "lead 0 0 1;lead 1 1 2;lead 2 2 3;lead 3 3 4;minute;");
        Check.court(x, text.toString());
        fullIs(x, 0);
    }

    private static void fullIs(CourtMoorhens x, int minute) {
        same("full: the minute", x.told(4), minute);
        for (int saying = 0; saying < 9; saying++) {
            same("full: said " + saying, x.saying(saying, 0), 10 + saying);
            same("full: side " + saying, x.saying(saying, 1), 1 - saying % 2);
            same("full: weight " + saying, x.saying(saying, 2), 20 + saying);
        }
        for (int i = 0; i < 4; i++) {
            same("full: bird " + i, x.bird(i, 0), 60 + 10 * i);
            same("full: steps " + i, x.bird(i, 1), 1 + i);
            same("full: led " + i, x.bird(i, 3), 0);
            same("full: crumbs " + i, x.counsel(i, 0), 30 + i);
            same("full: sly " + i, x.counsel(i, 1), 5 + i);
        }
    }

    private static void fullLed(CourtMoorhens x, int minute, int[] led, int[] given, int last) {
        same("full, led: the minute", x.told(4), minute);
        for (int i = 0; i < 4; i++) {
            same("full, led: bird " + i, x.bird(i, 0), 60 + 10 * i + led[i]);
            same("full, led: led " + i, x.bird(i, 3), led[i]);
            same("full, led: crumbs " + i, x.counsel(i, 0), 30 + i - given[i]);
            same("full, led: walk " + i, x.bird(i, 2), 1 + i);
        }
        same("full, led: the last saying", x.saying(8, 0), last);
    }

    private static void courtFaults() {
        courtFault("x", 1, 0);
        courtFault(" says 1 1 1;", 1, 1);
        courtFault("sa 1 1 1;", 1, 0);
        courtFault("bay 1 1 1;", 1, 0);
        courtFault("sayz 1 1 1;", 1, 0);
        courtFault("say`1 1 1;", 1, 3);
        courtFault("say{1 1 1;", 1, 3);
        courtFault("say/1 1 1;", 1, 3);
        courtFault("say:1 1 1;", 1, 3);
        courtFault("Say 1 1 1;", 1, 0);
        courtFault("minute;", 1, 0);
        courtFault("1", 1, 0);
        courtFault(";", 1, 0);
        courtFault("say 1 1 1;;", 1, 10);
        courtFault("say", 1, 3);
        courtFault("say  ", 1, 5);
        courtFault("say 1 1 ;", 1, 8);
        courtFault("say 1 1 1", 1, 9);
        courtFault("say 1 1 1 1;", 1, 10);
        courtFault("say 1 1 1\t;", 1, 9);
        courtFault("say -1 1 1;", 1, 4);
        courtFault("say 1 x 1;", 1, 6);
        courtFault("say 1 1 1;\u0000", 1, 10);
        courtFault("say 1 1 1; \u00e9", 1, 11);
        courtFault("say 100 1 1;", 2, 4);
        courtFault("say 4294967296 1 1;", 2, 4);
        courtFault("say 18446744073709551617 1 1;", 2, 4);
        courtFault("say 1  2 1;", 2, 7);
        courtFault("say 1 1 61;", 2, 8);
        courtFault("so 0 0 0;say 1 1 1;", 2, 3);
        courtFault("say 1 1 1;so 1 0 0;", 2, 13);
        courtFault("say 1 1 1;so 0 1 0;", 2, 15);
        courtFault("say 1 1 1;so 0 0 1;", 2, 17);
        courtFault("say 1 1 1;say 1 1 1;so 1 1 2;", 2, 27);
        courtFault("bird 100 1;", 2, 5);
        courtFault("bird 1 0;", 2, 7);
        courtFault("bird 1 21;", 2, 7);
        courtFault("counsel 41 0;", 2, 8);
        courtFault("counsel 0 10;", 2, 10);
        courtFault(times(10, "say 1 1 1;"), 3, 90);
        courtFault(times(9, "say 1 1 1;") + " say", 3, 91);
        courtFault("say 1 1 1;" + times(13, "so 0 0 0;"), 3, 10 + 12 * 9);
        courtFault(times(5, "bird 1 1;"), 3, 36);
        courtFault(times(5, "counsel 1 1;"), 3, 48);
    }

    private static void courtLeavesAll() {
        CourtMoorhens x = farm();
        Check.law(x, "7");
        Check.book(x, "1 1;");
        Check.work(x, "minute;note 2;");
        x.image();
        same("court with a fault", Check.court(x, "say 1 1 1;say 1 1 1;bird 1 0;"), -8);
        same("its place", x.fault(), 27);
        same("sayings stay", x.told(0), 4);
        same("birds stay", x.told(2), 2);
        same("a saying stays", x.saying(0, 2), 9);
        same("the minute stays", x.told(4), 1);
        same("steps refused stay", x.told(10), 1);
        same("the book stays", x.told(9), 1);
        same("the law stays", x.would(1, 0, 0, 0, 0, 0), 7);
        same("images stay", x.count(0), 1);
        same("works stay", x.count(2), 1);
        Check.feed(x, "say 1 1 1;");
        CHECK.refusesArgument("court(-1)", () -> x.court(-1));
        CHECK.refusesArgument("court(21)", () -> x.court(21));
        CHECK.refusesArgument("court(MIN)", () -> x.court(MIN));
        CHECK.refusesArgument("court(MAX)", () -> x.court(MAX));
        same("the tape stays", x.count(1), 20);
        same("the fault stays", x.fault(), 27);
        same("the first bytes alone", x.court(10), 1);
        same("the rest is gone", x.count(1), 0);
    }

    private static void courtEmpties() {
        CourtMoorhens x = farm();
        Check.law(x, "7");
        Check.book(x, "1 1;");
        Check.law(x, "6+1");
        Check.work(x, "again 5[minute;];note 1;lead 0 1 5;put 0 3 2;call 1 0;note 0;");
        same("one is noted", x.told(8), 2);
        x.image();
        same("court again", Check.court(x, FARM), 4);
        same("minute 0", x.told(4), 0);
        same("no law", x.would(3, 0, 0, 0, 0, 0), 3);
        same("no walk by it", x.bird(0, 2), 3);
        same("no book", x.told(9), 0);
        same("no images", x.count(0), 0);
        same("nothing to undo", x.undo(), -1);
        same("nothing refused", x.told(10), 0);
        same("begins as told", x.bird(1, 0), 20);
        same("not led", x.bird(1, 3), 0);
        same("crumbs as told", x.counsel(0, 0), 9);
        same("said as told", x.saying(3, 0), 8);
        same("nothing noted", x.told(8), 0);
    }

    private static void lawIs(String law, int due) {
        CourtMoorhens x = farm();
        same("law '" + law + "'", Check.law(x, law), 1);
        same("no fault of '" + law + "'", x.fault(), -1);
        same("would by '" + law + "'", x.would(5, 33, 21, 12, 2, 3), due);
    }

    private static void laws() {
        lawIs("steps", 5);
        lawIs("begin", 33);
        lawIs("crumbs", 21);
        lawIs("led", 12);
        lawIs("notes", 2);
        lawIs("bird", 3);
        lawIs("0", 1);
        lawIs("999", 40);
        lawIs("41", 40);
        lawIs("40", 40);
        lawIs("39", 39);
        lawIs("1", 1);
        lawIs("0-5", 1);
        lawIs("20-5-3", 12);
        lawIs("20-5+3", 18);
        lawIs("2+3*4", 14);
        lawIs("2*3+4", 10);
        lawIs("100/7/2", 7);
        lawIs("100/7*2", 28);
        lawIs("100%7*3", 6);
        lawIs("7*8%10", 6);
        lawIs("(2+3)*4", 20);
        lawIs("30-(5-3)", 28);
        lawIs("5/0+3", 3);
        lawIs("5%0+3", 3);
        lawIs("(0-7)/2+10", 7);
        lawIs("(0-7)%4+10", 7);
        lawIs("7%(0-4)+10", 13);
        lawIs("least[steps,9]", 5);
        lawIs("least[9,steps]", 5);
        lawIs("most[steps,9]", 9);
        lawIs("most[9,steps]", 9);
        lawIs(" most [ led , least [ begin , 20 ] ] ", 20);
        lawIs("((((((7))))))", 7);
        lawIs("(1)+((((((7-1))))))", 7);
        lawIs("least[(((((9))))),most[1,2]]", 2);
        lawIs(times(6, "least[") + "8" + times(6, ",9]"), 8);
        lawIs(times(6, "most[8,") + "9" + times(6, "]"), 9);
        // Values wrap: 4985014995 is 690047699, and 2991008997 is -1303958299.
        lawIs("999*999*999*5/999/999-660", 31);
        lawIs("999*999*999*3/999/999/9+169", 24);
        // The least value by -1 is itself again, and leaves nothing.
        lawIs("(0-128*128*256*512)/(0-1)/128/128/512+280", 24);
        lawIs("(0-128*128*256*512)%(0-1)+18", 18);
        lawIs(times(74, "1+") + "0", 40);
        lawIs(times(50, "1+") + times(24, "1-") + "1", 27);
        lawFaults();
        lawLeavesAll();
    }

    private static void lawFaults() {
        lawFault("", 1, 0);
        lawFault("  ", 1, 2);
        lawFault("1000", 2, 0);
        lawFault("1+ 1000", 2, 3);
        lawFault("99999999999999999999", 2, 0);
        lawFault("1 2", 1, 2);
        lawFault("1+", 1, 2);
        lawFault("+1", 1, 0);
        lawFault("-1", 1, 0);
        lawFault("1**2", 1, 2);
        lawFault("(1", 1, 2);
        lawFault("1)", 1, 1);
        lawFault("()", 1, 1);
        lawFault("1;", 1, 1);
        lawFault("step", 1, 0);
        lawFault("stepss", 1, 0);
        lawFault("minute", 1, 0);
        lawFault("least", 1, 5);
        lawFault("least(1,2)", 1, 5);
        lawFault("least[1]", 1, 7);
        lawFault("least[1,2", 1, 9);
        lawFault("most[1,2)", 1, 8);
        lawFault("most[1,2,3]", 1, 8);
        lawFault("most[,2]", 1, 5);
        lawFault("(((((((1)))))))", 3, 6);
        lawFault("((((((least[1,2]))))))", 3, 6);
        lawFault("((((((most", 3, 6);
        lawFault("((((((leas", 1, 6);
        lawFault(times(6, "most[1,") + " (1)" + times(6, "]"), 3, 43);
        lawFault(times(7, "least["), 3, 36);
        lawFault(times(7, "most[1,"), 3, 42);
    }

    private static void lawLeavesAll() {
        CourtMoorhens x = farm();
        Check.work(x, "minute;note 2;");
        Check.book(x, "1 1;");
        x.image();
        same("law", Check.law(x, "2"), 1);
        same("the walk by it", x.bird(0, 2), 2);
        same("a law with a fault", Check.law(x, "5+"), -9);
        same("the law stays", x.bird(0, 2), 2);
        same("the minute stays by a law", x.told(4), 1);
        same("works stay by a law", x.count(2), 1);
        same("images stay by a law", x.count(0), 1);
        same("the book stays by a law", x.told(9), 1);
        same("refused stays by a law", x.told(10), 1);
        Check.feed(x, times(8, "7                   "));
        CHECK.refusesArgument("law(151)", () -> x.law(151));
        CHECK.refusesArgument("law(-1)", () -> x.law(-1));
        same("the tape stays", x.count(1), 160);
        same("law(150)", x.law(150), -9);
        same("the second 7", x.fault(), 20);
        CHECK.refusesArgument("law(1) of an empty tape", () -> x.law(1));
        Check.feed(x, "7" + times(149, " "));
        same("law of 150 bytes", x.law(150), 1);
    }

    private static void works() {
        CourtMoorhens x = farm();
        same("no steps", Check.work(x, " "), 0);
        same("minutes", Check.work(x, "minute; minute ;"), 2);
        same("the minute", x.told(4), 2);
        same("again", Check.work(x, "again 3 [ minute ; again 2[minute;]; ] ; again 0[minute;];again 5[];"), 9);
        same("the minute", x.told(4), 11);
        same("agains are not refused", x.told(10), 0);
        same("refused ones are not counted", Check.work(x, "note 2;minute;note 3;"), 1);
        same("how many", x.told(10), 2);
        same("works", x.count(2), 4);
        same("the fault is none", x.fault(), -1);
        workFaults();
        workLimits();
        calls();
        leads();
        puts();
        notes();
    }

    private static void workFaults() {
        workFault("walk;", 1, 0);
        workFault("minute", 1, 6);
        workFault("minutes;", 1, 0);
        workFault("minute;]", 1, 7);
        workFault("minute 1;", 1, 7);
        workFault("call 0;", 1, 6);
        workFault("call 2 0;", 2, 5);
        workFault("call 1 2;", 2, 7);
        workFault("call 2 2;", 2, 5);
        workFault("lead 2 0 1;", 2, 5);
        workFault("lead 0 2 1;", 2, 7);
        workFault("lead 0 0 0;", 2, 9);
        workFault("lead 0 0 10;", 2, 9);
        workFault("put 2 0 1;", 2, 4);
        workFault("put 0 4 1;", 2, 6);
        workFault("put 0 3 0;", 2, 8);
        workFault("put 0 3 10;", 2, 8);
        workFault("note 4;", 2, 5);
        workFault("note;", 1, 4);
        workFault("again 41[];", 2, 6);
        workFault("again [];", 1, 6);
        workFault("again 1(minute;);", 1, 7);
        workFault("again 1[minute];", 1, 14);
        workFault("again 1[minute;", 1, 15);
        workFault("again 1[minute;]", 1, 16);
        workFault("again 1[;];", 1, 8);
        workFault("minute;minute;note 9;", 2, 19);
        workFault(times(7, "again1[") + times(7, "];"), 3, 42);
        workFault(times(6, "again1[") + "again99", 3, 42);
        CourtMoorhens x = farm();
        same("six agains at one time", Check.work(x, times(6, "again1[") + "minute;" + times(6, "];") + "again1[minute;];"), 2);
        same("a fault does no step", Check.work(x, "minute;minute;minutes;"), -9);
        same("the minute stays", x.told(4), 2);
        same("works stay", x.count(2), 1);
        Check.work(x, "note 2;");
        Check.work(x, "note 2");
        same("refused stays behind a fault", x.told(10), 1);
        CourtMoorhens empty = new CourtMoorhens();
        same("a note of no saying", Check.work(empty, "note 0;"), -8);
        same("a call of no counsel", Check.work(empty, "call 0 0;"), -8);
        same("a put of no counsel", Check.work(empty, "put 0 0 1;"), -8);
    }

    private static void workLimits() {
        CourtMoorhens x = farm();
        same("200 steps, of these 5 agains", Check.work(x, times(5, "again 40[minute;];")), 195);
        same("the minute", x.told(4), 195);
        same("the 200th is begun", Check.work(x, times(4, "again 40[minute;];") + "again 34[minute;];minute;minute;"), 195);
        same("the 201st is not", x.told(4), 390);
        CourtMoorhens z = farm();
        Check.work(z, "again 9[minute;];");
        // SAYING 1 alone does not count: it is noted, and not any more, by turns; 39 turns of 5, and 4 steps more.
        same("refused ones and inner agains are begun, too",
                Check.work(z, "again 40[note 1;note 2;note 3;again 0[];minute;];minute;"), 79);
        same("refused", z.told(10), 80);
        same("the minute of that", z.told(4), 48);
        same("an inner again is begun each time", Check.work(z, "again 40[again 5[minute;];];"), 165);
        CourtMoorhens y = Check.with("");
        same("a minute to 195", Check.work(y, times(5, "again 40[minute;];")), 195);
        same("a minute to 390", Check.work(y, times(5, "again 40[minute;];")), 195);
        same("a minute to 400", Check.work(y, "again 12[minute;];"), 10);
        same("the minute is 400", y.told(4), 400);
        same("two are refused", y.told(10), 2);
        for (int i = 4; i <= 16; i++) {
            same("work " + i, Check.work(y, ""), 0);
        }
        same("works", y.count(2), 16);
        Check.work(y, "x");
        same("the 17th", Check.work(y, "minute"), -20);
        same("no fault behind it", y.fault(), -1);
        same("the tape is empty behind it", y.count(1), 0);
        same("16 works stay", y.count(2), 16);
        CHECK.refusesArgument("work(1) of an empty tape, ahead of the 17th", () -> y.work(1));
        Check.feed(y, times(160, " "));
        CHECK.refusesArgument("work(151)", () -> y.work(151));
        CHECK.refusesArgument("work(-1)", () -> y.work(-1));
        same("the tape stays", y.count(1), 160);
        same("undo", y.undo(), 15);
        same("a 16th again", y.work(150), 0);
        same("the next", y.work(0), -20);
    }

    private static void calls() {
        CourtMoorhens x = Check.with("bird 5 2;bird 0 2;counsel 2 0;counsel 0 0;");
        same("a bird that begins now", Check.work(x, "call 0 1;"), 0);
        same("counsel without crumbs", Check.work(x, "call 1 0;"), 0);
        same("call", Check.work(x, "minute;call 0 0;"), 2);
        same("begins now", x.bird(0, 0), 1);
        same("a crumb is given", x.counsel(0, 0), 1);
        same("it was not led by that", x.bird(0, 3), 0);
        same("it is ON", x.told(11), 3);
        same("again", Check.work(x, "call 0 0;"), 0);
        same("refused", x.told(10), 1);
        same("began ahead", Check.work(x, "minute;call 0 0;call 0 1;"), 1);
        same("no crumb for that", x.counsel(0, 0), 1);
        CourtMoorhens y = Check.with("bird 5 2;bird 8 2;counsel 1 0;");
        Check.law(y, "begin + 10 * crumbs");
        same("walk ahead of a call", y.bird(1, 2), 18);
        same("the last crumb", Check.work(y, "minute;call 0 0;call 0 1;"), 2);
        same("walk behind it", y.bird(0, 2), 1);
        same("walk of the other behind it", y.bird(1, 2), 8);
    }

    private static void leads() {
        CourtMoorhens x = Check.with("bird 0 2;bird 99 2;counsel 40 0;counsel 2 0;counsel 40 0;counsel 40 0;");
        same("lead", Check.work(x, "lead 0 0 3;lead 1 0 2;"), 2);
        same("begins later", x.bird(0, 0), 5);
        same("led by both", x.bird(0, 3), 5);
        same("crumbs of the first", x.counsel(0, 0), 37);
        same("crumbs of the second", x.counsel(1, 0), 0);
        same("not so many crumbs", Check.work(x, "lead 1 0 1;"), 0);
        same("one that begins now can be led", Check.work(x, "again 5[minute;];lead 0 0 1;"), 6);
        same("one that began cannot", Check.work(x, "minute;minute;lead 0 0 1;"), 2);
        same("refused", x.told(10), 1);
        same("it stays", x.bird(0, 0), 6);
        CourtMoorhens y = Check.with("bird 99 2;" + times(4, "counsel 40 0;"));
        for (int counsel = 0; counsel < 4; counsel++) {
            Check.work(y, "again 4[lead " + counsel + " 0 9;];");
        }
        same("led far", y.bird(0, 0), 99 + 16 * 9);
        same("led by so many", y.bird(0, 3), 144);
        same("crumbs left", y.counsel(3, 0), 4);
    }

    private static void puts() {
        CourtMoorhens x = Check.with("say 3 0 1;say 0 0 1;counsel 0 5;");
        same("put", Check.work(x, "put 0 0 5;put 0 1 1;"), 2);
        same("said later", x.saying(0, 0), 8);
        same("the other, too", x.saying(1, 0), 1);
        same("more than sly", Check.work(x, "put 0 0 6;"), 0);
        same("it stays", x.saying(0, 0), 8);
        same("one that is said now", Check.work(x, "minute;put 0 1 2;"), 2);
        same("it is said later", x.saying(1, 0), 3);
        same("one that was said", Check.work(x, "again 3[minute;];put 0 1 1;"), 3);
        same("no crumbs for it", x.counsel(0, 0), 0);
        CourtMoorhens y = Check.with("say 99 1 7;counsel 0 9;");
        Check.work(y, "again 33[put 0 0 9;];");
        same("near the end", y.saying(0, 0), 396);
        same("put beyond 400", Check.work(y, "put 0 0 9;"), 1);
        same("400 at most", y.saying(0, 0), 400);
        same("put at 400", Check.work(y, "put 0 0 9;"), 1);
        same("400 still", y.saying(0, 0), 400);
    }

    private static void notes() {
        CourtMoorhens x = Check.with("say 2 0 1;say 3 0 1;say 0 0 1;bird 1 2;counsel 9 9;");
        same("one that counts", Check.work(x, "note 2;"), 0);
        same("one that is said behind", Check.work(x, "minute;note 0;"), 1);
        same("nothing is noted", x.told(8), 0);
        same("one that is said now", Check.work(x, "minute;note 0;"), 2);
        same("it is noted", x.told(8), 1);
        same("not any more", Check.work(x, "note 0;"), 1);
        same("nothing is noted again", x.told(8), 0);
        same("one that was said", Check.work(x, "minute;note 0;note 1;"), 2);
        same("it is noted", x.told(8), 1);
        CourtMoorhens y = Check.with("say 0 0 1;bird 0 1;counsel 9 9;");
        same("noted, then put off", Check.work(y, "note 0;put 0 0 3;"), 2);
        same("what is noted and said behind now", y.told(8), 1);
        same("it walks on by notes", Check.law(y, "9"), 1);
        same("can be struck out", Check.work(y, "note 0;"), 1);
        same("nothing is noted", y.told(8), 0);
        same("but not noted again", Check.work(y, "note 0;"), 0);
    }

    private static void books() {
        CourtMoorhens x = farm();
        same("book", Check.book(x, " 3 1 ; 0 0;1 1;"), 3);
        same("lines", x.told(9), 3);
        same("no fault", x.fault(), -1);
        same("a new book", Check.book(x, "2 0;"), 1);
        same("lines of the new one", x.told(9), 1);
        bookFault("4 0;", 2, 0);
        bookFault("0 2;", 2, 2);
        bookFault("0 1;0 0;", 2, 4);
        bookFault("0 1;2 1; 0 0;", 2, 9);
        bookFault("0 1;00 0;", 2, 4);
        bookFault("0;", 1, 1);
        bookFault("0 1", 1, 3);
        bookFault("x", 1, 0);
        bookFault("0 1;;", 1, 4);
        same("pairs by the book", x.fits(0), 3);
        same("a fault", Check.book(x, "0 1;1 1"), -9);
        same("the book stays", x.told(9), 1);
        same("its lines stay", x.fits(0), 3);
        Check.feed(x, times(80, " "));
        CHECK.refusesArgument("book(61)", () -> x.book(61));
        CHECK.refusesArgument("book(-1)", () -> x.book(-1));
        same("the tape stays", x.count(1), 80);
        same("book(60)", x.book(60), 0);
        same("an empty one", x.told(9), 0);
        CourtMoorhens empty = new CourtMoorhens();
        same("a line for no saying", Check.book(empty, "0 0;"), -8);
        CourtMoorhens nine = Check.with(times(9, "say 1 0 1;"));
        same("nine lines", Check.book(nine, "8 1;7 1;6 1;5 1;4 1;3 1;2 1;1 1;0 1;"), 9);
    }

    // ---- 7 to 13: how all stands

    private static void faults() {
        CourtMoorhens x = farm();
        same("a fault of the law", Check.law(x, "1 +"), -9);
        same("its place", x.fault(), 3);
        same("a good book", Check.book(x, "0 1;"), 1);
        same("no fault", x.fault(), -1);
        same("a fault of the book", Check.book(x, "0 5;"), -8);
        same("its place", x.fault(), 2);
        CHECK.refusesArgument("a text that is not there", () -> x.law(5));
        same("the fault stays", x.fault(), 2);
        x.feed(0, 0, 0, 0, 0);
        x.undo();
        x.image();
        x.restore();
        same("the fault still stays", x.fault(), 2);
        same("a work", x.work(0), 0);
        same("no fault again", x.fault(), -1);
        Check.work(x, "note 7;");
        Check.court(x, FARM);
        same("no fault by a court", x.fault(), -1);
        Check.work(x, "note 7;");
        Check.law(x, "1");
        same("no fault by a law", x.fault(), -1);
    }

    private static void undos() {
        CourtMoorhens x = Check.with("say 0 1 3;say 5 0 2;bird 0 2;bird 9 1;counsel 9 9;");
        same("first", Check.work(x, "note 0;lead 0 1 4;minute;put 0 1 2;"), 4);
        same("second", Check.work(x, "minute;note 1;call 0 1;"), 2);
        same("of no steps", Check.work(x, ""), 0);
        same("all refused", Check.work(x, "note 1;"), 0);
        same("refused", x.told(10), 1);
        same("undo the refused one", x.undo(), 3);
        same("refused behind undo", x.told(10), 0);
        same("undo the empty one", x.undo(), 2);
        same("all as the second left it", x.bird(1, 0), 2);
        same("undo the second", x.undo(), 1);
        same("bird 1 begins", x.bird(1, 0), 13);
        same("bird 1 was led", x.bird(1, 3), 4);
        same("crumbs", x.counsel(0, 0), 5);
        same("the minute", x.told(4), 1);
        same("noted", x.told(8), 1);
        same("said", x.saying(1, 0), 7);
        same("undo the first", x.undo(), 0);
        same("bird 1 begins as told", x.bird(1, 0), 9);
        same("bird 1 is not led", x.bird(1, 3), 0);
        same("crumbs as told", x.counsel(0, 0), 9);
        same("the minute as told", x.told(4), 0);
        same("noted as told", x.told(8), 0);
        same("said as told", x.saying(1, 0), 5);
        same("nothing more", x.undo(), -1);
        Check.law(x, "steps + notes");
        Check.work(x, "note 0;");
        Check.law(x, "steps + 3 * notes");
        same("by the law of now", x.bird(0, 2), 5);
        x.undo();
        same("by the law of now, too", x.bird(0, 2), 2);
    }

    private static void tolds() {
        CourtMoorhens x = farm();
        int[] first = {4, 2, 2, 2, 0, 13, 0, 0, 0, 0, 0, 0};
        for (int what = 0; what < 12; what++) {
            same("told " + what, x.told(what), first[what]);
        }
        Check.book(x, "1 0;0 1;");
        Check.work(x, "again 5[minute;];note 1;note 0;call 0 0;");
        int[] then = {4, 2, 2, 2, 5, 13, 1, 1, 2, 2, 2, 1};
        for (int what = 0; what < 12; what++) {
            same("told at minute 5: " + what, x.told(what), then[what]);
        }
        Check.law(x, "1");
        int[] last = {4, 2, 2, 2, 5, 15, 3, 15, 2, 2, 2, 0};
        for (int what = 0; what < 12; what++) {
            same("told by the law: " + what, x.told(what), last[what]);
        }
        for (int what : new int[] {-1, 12, MIN, MAX}) {
            CHECK.refusesArgument("told " + what, () -> x.told(what));
        }
        CourtMoorhens y = Check.with("bird 3 2;");
        Check.work(y, "again 2[minute;];");
        same("ahead of it", y.told(11), 0);
        Check.work(y, "minute;");
        same("its first minute", y.told(11), 1);
        Check.work(y, "minute;");
        same("its last minute", y.told(11), 1);
        Check.work(y, "minute;");
        same("behind it", y.told(11), 0);
    }

    private static void leans() {
        CourtMoorhens x = farm();
        same("lean at 0", x.lean(), 0);
        Check.work(x, "minute;");
        same("lean at 1", x.lean(), 0);
        Check.work(x, "minute;");
        same("lean at 2", x.lean(), 9);
        Check.law(x, "1");
        Check.work(x, "again 3[minute;];");
        same("with what follows", x.lean(), 9 - 4 + 6 - 20);
        CourtMoorhens y = Check.with("say 0 0 1;say 9 1 50;say 9 1 7;say 9 0 2;so 2 2 3;so 1 1 2;so 0 0 1;");
        same("what follows from what follows", y.lean(), 50 + 7 - 2 - 1);
        CourtMoorhens z = Check.with("say 0 0 1;say 9 1 50;so 0 1 1;");
        same("a rule needs both", z.lean(), -1);
    }

    private static void sayings() {
        CourtMoorhens x = farm();
        int[][] due = {{2, 1, 9, 1, 0, 0}, {5, 0, 4, 0, 0, 1}, {8, 1, 6, 1, 0, 0}, {8, 0, 20, 1, 0, 0}};
        for (int saying = 0; saying < 4; saying++) {
            for (int what = 0; what < 6; what++) {
                same("saying " + saying + " " + what, x.saying(saying, what), due[saying][what]);
            }
        }
        Check.work(x, "put 0 0 2;again 6[minute;];note 0;");
        same("put off", x.saying(0, 0), 4);
        same("does not count", x.saying(0, 3), 0);
        same("noted", x.saying(0, 4), 1);
        CourtMoorhens y = Check.with("say 3 1 1;bird 2 1;bird 3 1;bird 1 2;bird 1 3;");
        same("birds at its minute", y.saying(0, 5), 10);
        CHECK.refusesArgument("saying 0 6", () -> x.saying(0, 6));
        CHECK.refusesArgument("saying 3 -1", () -> x.saying(3, -1));
        CHECK.refusesMissing("saying 4 0", () -> x.saying(4, 0));
        CHECK.refusesMissing("saying -1 0", () -> x.saying(-1, 0));
        CHECK.refusesMissing("saying 4 6, the first of two", () -> x.saying(4, 6));
    }

    private static void birds() {
        CourtMoorhens x = farm();
        int[][] due = {{4, 3, 3, 0, 6}, {20, 2, 2, 0, 21}};
        for (int bird = 0; bird < 2; bird++) {
            for (int what = 0; what < 5; what++) {
                same("bird " + bird + " " + what, x.bird(bird, what), due[bird][what]);
            }
        }
        Check.law(x, "steps + led * 2 + bird * 10 + crumbs / 5 + begin / 10");
        Check.work(x, "lead 0 0 3;");
        int[] led = {7, 3, 3 + 6 + 0 + 7 / 5 + 0, 3, 7 + 10 - 1};
        for (int what = 0; what < 5; what++) {
            same("bird 0, led: " + what, x.bird(0, what), led[what]);
        }
        same("bird 1 by crumbs of all", x.bird(1, 2), 2 + 0 + 10 + 7 / 5 + 2);
        CourtMoorhens rich = Check.with("bird 0 1;" + times(4, "counsel 40 0;"));
        Check.law(rich, "crumbs - 130");
        same("by all the crumbs that can be", rich.bird(0, 2), 30);
        CHECK.refusesArgument("bird 0 5", () -> x.bird(0, 5));
        CHECK.refusesArgument("bird 1 -1", () -> x.bird(1, -1));
        CHECK.refusesMissing("bird 2 0", () -> x.bird(2, 0));
        CHECK.refusesMissing("bird -1 0", () -> x.bird(-1, 0));
        CHECK.refusesMissing("bird 2 5, the first of two", () -> x.bird(2, 5));
        CourtMoorhens y = Check.with("say 0 0 1;say 0 0 1;bird 0 1;");
        Check.law(y, "notes * 3");
        Check.work(y, "note 0;note 1;");
        same("by notes", y.bird(0, 2), 6);
        Check.work(y, "note 0;");
        same("by fewer notes", y.bird(0, 2), 3);
    }

    private static void counsels() {
        CourtMoorhens x = farm();
        same("crumbs", x.counsel(0, 0), 9);
        same("sly", x.counsel(0, 1), 2);
        same("crumbs of the other", x.counsel(1, 0), 1);
        same("sly of the other", x.counsel(1, 1), 0);
        Check.work(x, "call 0 0;lead 0 1 3;put 0 2 2;");
        same("crumbs left", x.counsel(0, 0), 5);
        same("sly stays", x.counsel(0, 1), 2);
        CHECK.refusesArgument("counsel 0 2", () -> x.counsel(0, 2));
        CHECK.refusesArgument("counsel 1 -1", () -> x.counsel(1, -1));
        CHECK.refusesMissing("counsel 2 0", () -> x.counsel(2, 0));
        CHECK.refusesMissing("counsel -1 0", () -> x.counsel(-1, 0));
        CHECK.refusesMissing("counsel 2 2, the first of two", () -> x.counsel(2, 2));
    }

    // ---- 14 to 22: minutes ahead, ways and sets

    private static void woulds() {
        CourtMoorhens x = new CourtMoorhens();
        Check.law(x, "steps + begin + crumbs + led + notes + bird - 20");
        same("the least of all", x.would(1, 0, 0, 0, 0, 0), 1);
        same("between", x.would(9, 8, 7, 6, 5, 1), 16);
        same("the most of all", x.would(20, 400, 160, 999, 9, 3), 40);
        int[] right = {5, 5, 5, 5, 5, 1};
        int[] least = {1, 0, 0, 0, 0, 0};
        int[] most = {20, 400, 160, 999, 9, 3};
        for (int i = 0; i < 6; i++) {
            for (int value : new int[] {least[i] - 1, most[i] + 1, MIN, MAX}) {
                int[] n = right.clone();
                n[i] = value;
                CHECK.refusesArgument("would with " + value + " for " + i, () -> x.would(n[0], n[1], n[2], n[3], n[4], n[5]));
            }
        }
        same("refused", x.status(1), 24);
    }

    private static void ats() {
        CourtMoorhens x = farm();
        same("no bird at 3", x.at(3, 0), 0);
        same("a bird at 4", x.at(4, 0), 1);
        same("a bird at 6", x.at(6, 0), 1);
        same("no bird at 7", x.at(7, 0), 0);
        same("the other at 20", x.at(20, 0), 2);
        same("no bird at 499", x.at(499, 0), 0);
        same("said at 8", x.at(8, 1), 12);
        same("said at 5, though it does not count", x.at(5, 1), 2);
        same("nothing at 9", x.at(9, 1), 0);
        same("no bird at 0", x.at(0, 0), 0);
        same("lean at 1", x.at(1, 2), 0);
        same("lean at 2", x.at(2, 2), 9);
        same("lean at 7", x.at(7, 2), 9);
        same("lean at 499", x.at(499, 2), 9 + 6 - 20);
        Check.work(x, "again 9[minute;];");
        same("lean at 2, looking back", x.at(2, 2), 9);
        for (int n : new int[] {-1, 500, MIN, MAX}) {
            CHECK.refusesArgument("at " + n, () -> x.at(n, 0));
        }
        CHECK.refusesArgument("at 0 3", () -> x.at(0, 3));
        CHECK.refusesArgument("at 0 -1", () -> x.at(0, -1));
    }

    private static void clears() {
        CourtMoorhens x = farm();
        same("clear", x.clear(), 495);
        Check.work(x, "again 5[minute;];");
        same("clear from 5 on", x.clear(), 495 - 2 - 2);
        CourtMoorhens y = Check.with("bird 0 9;bird 3 2;bird 8 2;");
        same("birds that are ON together", y.clear(), 490);
        Check.work(y, "minute;minute;");
        same("from 2 on", y.clear(), 490);
    }

    private static void hides() {
        CourtMoorhens x = farm();
        same("one that does not count", x.hide(2, 0), 0);
        same("its way", x.hide(2, 1), 0);
        same("led by 2", x.hide(4, 0), 2);
        same("the way", x.hide(4, 1), 2);
        same("both at 8", x.hide(12, 0), 2);
        same("5 and 8", x.hide(6, 0), -1);
        same("no way", x.hide(6, 1), -1);
        same("ahead of all birds", x.hide(1, 0), -1);
        same("none", x.hide(0, 0), 0);
        same("nothing is changed", x.bird(0, 0), 4);
        Check.work(x, "again 4[minute;];");
        same("one that begins now", x.hide(4, 0), 2);
        Check.work(x, "minute;");
        same("one that began ahead", x.hide(4, 0), -1);
        same("which covers still", x.hide(2, 0), 0);
        hidesOfMany();
        for (int bits : new int[] {-1, 16, MIN, MAX}) {
            CHECK.refusesArgument("hide " + bits, () -> x.hide(bits, 0));
        }
        CHECK.refusesArgument("hide 0 2", () -> x.hide(0, 2));
        CHECK.refusesArgument("hide 0 -1", () -> x.hide(0, -1));
    }

    private static void hidesOfMany() {
        CourtMoorhens x = Check.with("say 10 0 1;bird 7 1;bird 7 1;");
        same("of alike ways", x.hide(1, 0), 3);
        same("the first leads the first bird the least", x.hide(1, 1), 30);
        CourtMoorhens y = Check.with("say 5 0 1;say 9 0 1;say 14 0 1;say 20 0 1;bird 4 1;bird 8 1;bird 12 1;bird 11 1;");
        same("all four", y.hide(15, 0), 1 + 1 + 2 + 9);
        same("each its own", y.hide(15, 1), 9211);
        CourtMoorhens wide = Check.with("say 20 0 1;bird 10 1;bird 10 1;");
        same("not by 10", wide.hide(1, 0), -1);
        CourtMoorhens begun = Check.with("say 10 0 1;bird 9 1;bird 5 1;");
        Check.work(begun, "again 9[minute;];");
        same("one that begins now leads on", begun.hide(1, 1), 1);
        Check.work(begun, "minute;");
        same("neither can be led", begun.hide(1, 0), -1);
        CourtMoorhens z = Check.with("say 9 0 1;bird 4 2;counsel 7 0;");
        Check.law(z, "steps + led");
        same("led as it would be then", z.hide(1, 0), 2);
        Check.law(z, "steps + crumbs - 6");
        same("crumbs as now", z.hide(1, 0), 3);
        Check.law(z, "most[1, 12 - begin]");
        same("begin as it would be then", z.hide(1, 0), 0);
        Check.law(z, "begin - 6");
        same("begin as it would be then, too", z.hide(1, 0), 4);
    }

    /** A SAYING at 400. */
    private static CourtMoorhens farAway() {
        CourtMoorhens x = Check.with("say 99 1 7;bird 99 1;counsel 0 9;");
        Check.work(x, "again 40[put 0 0 9;];");
        return x;
    }

    private static void follow() {
        CourtMoorhens x = farm();
        same("of none", x.follows(0), 0);
        same("of 0 and 1", x.follows(3), 15);
        same("of 2", x.follows(4), 12);
        same("of 0 alone", x.follows(1), 1);
        same("of 1 alone", x.follows(2), 2);
        same("of all", x.follows(15), 15);
        CourtMoorhens chain = Check.with(times(9, "say 0 0 1;") + "so 7 7 8;so 6 6 7;so 5 5 6;so 4 4 5;so 3 3 4;so 2 2 3;so 1 1 2;so 0 0 1;");
        same("of a chain told from its end", chain.follows(1), 511);
        same("of its middle", chain.follows(16), 0x1f0);
        for (int bits : new int[] {-1, 16, 31, MIN, MAX}) {
            CHECK.refusesArgument("follows " + bits, () -> x.follows(bits));
        }
        CHECK.refusesArgument("follows 512", () -> chain.follows(512));
        same("follows 511", chain.follows(511), 511);
    }

    private static void proofs() {
        CourtMoorhens x = farm();
        same("of 0", x.proof(0), 1);
        same("of 1", x.proof(1), 2);
        same("of 2, itself being fewer than 0 and 1", x.proof(2), 4);
        same("of 3, of as few the least bits", x.proof(3), 4);
        CHECK.refusesMissing("proof 4", () -> x.proof(4));
        CHECK.refusesMissing("proof -1", () -> x.proof(-1));
        CourtMoorhens y = Check.with("say 0 0 1;say 0 0 1;say 0 0 1;so 2 2 0;so 1 1 2;");
        same("from itself", y.proof(0), 1);
        same("from 1 by a rule", y.proof(2), 2);
    }

    private static void turns() {
        CourtMoorhens x = Check.with("say 1 1 5;say 1 1 9;say 1 1 9;say 3 1 50;say 2 0 10;bird 1 1;bird 3 1;");
        same("nothing is said by now", x.turn(), -1);
        Check.work(x, "minute;");
        same("one is enough: the least bits", x.turn(), 1);
        Check.work(x, "minute;");
        same("ten against: two are needed, not the one to come", x.lean(), -10);
        same("the least bits of two", x.turn(), 3);
        Check.work(x, "minute;");
        same("one that is said now", x.turn(), 8);
        CourtMoorhens y = Check.with("say 0 1 5;say 1 0 4;say 1 0 1;say 1 0 6;bird 1 1;");
        Check.work(y, "minute;");
        same("above 0", y.lean(), 5);
        same("to be not above 0", y.turn(), 8);
        CourtMoorhens z = Check.with("say 0 1 5;say 1 0 4;say 1 0 1;say 1 0 1;bird 1 1;");
        Check.work(z, "minute;");
        same("0 is not above 0", z.turn(), 6);
        CourtMoorhens w = Check.with("say 0 0 5;say 1 1 2;say 5 1 4;bird 1 1;so 1 1 2;");
        Check.work(w, "minute;");
        same("with what follows", w.turn(), 2);
        CourtMoorhens u = Check.with("say 0 1 2;say 0 1 3;bird 0 1;");
        same("from 0 to above 0", u.turn(), 1);
        CourtMoorhens both = Check.with("say 1 1 2;say 1 1 3;so 0 0 1;bird 1 1;say 0 0 4;");
        Check.work(both, "minute;");
        same("one by what follows", both.turn(), 1);
        CourtMoorhens whole = Check.with("say 1 1 0;say 1 1 0;say 99 1 9;so 0 1 2;bird 1 1;");
        Check.work(whole, "minute;");
        same("two, of which one alone does nothing", whole.turn(), 3);
        CourtMoorhens every = Check.with("say 1 0 1;say 1 1 2;say 1 1 3;say 1 1 4;so 1 2 3;so 3 3 0;bird 1 1;");
        Check.work(every, "minute;");
        same("the least bits of alike ones", every.turn(), 2);
        CourtMoorhens one = Check.with("say 0 1 1;say 1 0 1;bird 1 1;");
        Check.work(one, "minute;");
        same("1 is above 0", one.turn(), 2);
        CourtMoorhens two = Check.with("say 1 1 1;say 1 1 1;say 0 0 1;bird 1 1;");
        Check.work(two, "minute;");
        same("1 against 1 is not enough", two.turn(), 3);
        CourtMoorhens most = Check.with("say 0 1 0;say 0 1 0;say 0 1 1;so 0 1 2;bird 0 1;");
        same("the last one alone", most.turn(), 4);
        CourtMoorhens v = Check.with("say 0 0 5;say 1 1 5;bird 1 1;");
        Check.work(v, "minute;");
        same("0 would not be above 0", v.turn(), -1);
    }

    private static void fitting() {
        CourtMoorhens x = farm();
        same("an empty book: all pairs", x.fits(0), 20);
        same("the first", x.fits(1), 0);
        Check.book(x, "2 0;");
        // Bird 0 covers MINUTE 8 when led by 2 to 4; bird 1 never does.
        same("led over 8", x.fits(0), 3);
        same("the first of them", x.fits(1), 2);
        Check.book(x, "2 0;3 1;");
        same("not one without the other", x.fits(0), 0);
        same("no first", x.fits(1), -1);
        Check.book(x, "1 0;");
        same("5 covered: bird 0 by 0 or 1, bird 1 by any", x.fits(0), 12);
        Check.book(x, "1 1;");
        same("5 not covered: bird 0 by 2 to 9", x.fits(0), 8);
        Check.work(x, "again 30[minute;];");
        same("whenever it begins by now", x.fits(0), 8);
        same("the first of these", x.fits(1), 2);
        CHECK.refusesArgument("fits 2", () -> x.fits(2));
        CHECK.refusesArgument("fits -1", () -> x.fits(-1));
        CourtMoorhens y = Check.with("say 5 0 1;bird 40 1;bird 3 1;counsel 7 1;");
        Check.book(y, "0 0;");
        same("the second bird's", y.fits(1), 12);
        Check.law(y, "1 + led");
        same("led as it would be then", y.fits(0), 2);
        same("the first then", y.fits(1), 11);
        Check.law(y, "most[1, crumbs - 5]");
        same("crumbs as now", y.fits(0), 2);
    }

    private static void looks() {
        CourtMoorhens x = farm();
        // By saying: 0 counts in all 20 pairs; 1 does not in 12; 2 and 3 do not in 3.
        same("look", x.look(0), 1);
        same("left at the worst", x.look(1), 12);
        Check.book(x, "1 0;");
        same("one in a line is not asked of", x.look(0), 0);
        same("all of the rest alike: the first", x.look(1), 12);
        Check.book(x, "1 1;");
        // 8 pairs: 2 and 3 do not count in 3 of them.
        same("look by a line", x.look(0), 2);
        same("left", x.look(1), 5);
        Check.book(x, "0 1;1 1;2 1;3 1;");
        same("all in lines", x.look(0), -1);
        same("all in lines, left", x.look(1), -1);
        Check.book(x, "0 0;");
        same("no pair fits", x.look(0), 1);
        same("none is left", x.look(1), 0);
        CourtMoorhens half = Check.with("say 5 0 1;say 30 0 1;bird 1 5;");
        same("the first counts by half", half.look(0), 0);
        same("half are left", half.look(1), 5);
        CourtMoorhens nine = Check.with(times(8, "say 99 0 1;") + "say 5 0 1;bird 1 5;");
        same("the ninth", nine.look(0), 8);
        same("half are left by the ninth", nine.look(1), 5);
        CourtMoorhens empty = Check.with("bird 3 3;");
        same("no sayings", empty.look(0), -1);
        same("no sayings, left", empty.look(1), -1);
        CHECK.refusesArgument("look 2", () -> x.look(2));
        CHECK.refusesArgument("look -1", () -> x.look(-1));
    }

    // ---- 23 to 25: what is counted

    private static void kindIs(int n, int k, int q, long above, long below) {
        CourtMoorhens x = new CourtMoorhens();
        String what = "kind of " + n + " " + k + " " + q;
        same(what, x.kind(n, k, q, 0), above);
        same(what + ", below", x.kind(n, k, q, 1), below);
    }

    private static void kinds() {
        kindIs(0, 0, 0, 1, 1);
        kindIs(0, 0, 16, 1, 1);
        kindIs(0, 1, 16, 0, 1);
        kindIs(1, 1, 4, 1, 4);
        kindIs(1, 1, 3, 3, 16);
        kindIs(1, 0, 3, 1, 1);
        kindIs(2, 1, 8, 3, 4);
        kindIs(2, 2, 8, 1, 4);
        kindIs(2, 1, 4, 7, 16);
        kindIs(3, 2, 8, 1, 2);
        kindIs(3, 2, 1, 23, 2048);
        kindIs(4, 2, 8, 11, 16);
        kindIs(5, 3, 0, 0, 1);
        kindIs(5, 5, 16, 1, 1);
        kindIs(5, 6, 16, 0, 1);
        kindIs(12, 12, 15, 129746337890625L, 281474976710656L);
        kindIs(12, 12, 1, 1, 281474976710656L);
        kindIs(12, 13, 16, 0, 1);
        kindIs(12, 0, 7, 1, 1);
        kindIs(12, 12, 8, 1, 4096);
        kindIs(12, 11, 8, 13, 4096);
        kindIs(12, 6, 8, 1255, 2048);
        CourtMoorhens x = new CourtMoorhens();
        for (int wrong : new int[] {-1, MIN, MAX}) {
            CHECK.refusesArgument("kind n", () -> x.kind(wrong, 0, 0, 0));
            CHECK.refusesArgument("kind k", () -> x.kind(0, wrong, 0, 0));
            CHECK.refusesArgument("kind q", () -> x.kind(0, 0, wrong, 0));
            CHECK.refusesArgument("kind half", () -> x.kind(0, 0, 0, wrong));
        }
        CHECK.refusesArgument("kind n 13", () -> x.kind(13, 0, 0, 0));
        CHECK.refusesArgument("kind k 14", () -> x.kind(0, 14, 0, 0));
        CHECK.refusesArgument("kind q 17", () -> x.kind(0, 0, 17, 0));
        CHECK.refusesArgument("kind half 2", () -> x.kind(0, 0, 0, 2));
    }

    private static void orders() {
        CourtMoorhens x = new CourtMoorhens();
        same("both notice", x.order(5, 3, 0), 1);
        same("the first", x.order(5, 3, 1), 0);
        same("together", x.order(5, 3, 2), 4);
        same("both notice, and lose by it", x.order(3, 5, 0), 1);
        same("the first of that", x.order(3, 5, 1), 0);
        same("together less than 0", x.order(3, 5, 2), -4);
        same("all is alike by v 0", x.order(0, 7, 0), 4);
        same("the first of those", x.order(0, 7, 1), 0);
        same("together by v 0", x.order(0, 7, 2), -14);
        same("the most", x.order(99, 0, 2), 198);
        same("the least", x.order(0, 99, 2), -198);
        for (int wrong : new int[] {-1, 100, MIN, MAX}) {
            CHECK.refusesArgument("order v", () -> x.order(wrong, 0, 0));
            CHECK.refusesArgument("order w", () -> x.order(0, wrong, 0));
        }
        CHECK.refusesArgument("order what 3", () -> x.order(0, 0, 3));
        CHECK.refusesArgument("order what -1", () -> x.order(0, 0, -1));
    }

    private static void loaves() {
        CourtMoorhens x = Check.with("counsel 9 0;counsel 1 0;counsel 5 0;counsel 40 0;bird 50 1;");
        int[][] due = {{0, 0, 0, 0}, {0, 0, 0, 0}, {0, 0, 0, 0}, {0, 0, 0, 0}, {1, 1, 1, 1}, {1, 1, 1, 1}, {1, 1, 1, 1},
            {2, 1, 2, 2}};
        for (int n = 0; n < 8; n++) {
            for (int counsel = 0; counsel < 4; counsel++) {
                same("loaf " + counsel + " of " + n, x.loaf(counsel, 15, n), due[n][counsel]);
            }
        }
        same("bound 4", x.loaf(0, 15, 15), 4);
        same("bound 9", x.loaf(3, 15, 24), 9);
        same("bound 10", x.loaf(3, 15, 25), 10);
        same("all but one", x.loaf(3, 15, 54), 39);
        same("all", x.loaf(3, 15, 55), 40);
        same("more than all", x.loaf(3, 15, 999), 40);
        same("more than all for the least", x.loaf(1, 15, 999), 1);
        same("not one of them", x.loaf(0, 14, 999), 0);
        same("among none", x.loaf(0, 0, 9), 0);
        same("alone", x.loaf(0, 1, 7), 7);
        same("a share that is not whole", x.loaf(0, 9, 9), 4);
        Check.work(x, "lead 0 0 6;");
        same("crumbs by now", x.loaf(0, 1, 7), 3);
        CHECK.refusesArgument("loaf all 16", () -> x.loaf(0, 16, 0));
        CHECK.refusesArgument("loaf all -1", () -> x.loaf(0, -1, 0));
        CHECK.refusesArgument("loaf n 1000", () -> x.loaf(0, 0, 1000));
        CHECK.refusesArgument("loaf n -1", () -> x.loaf(0, 0, -1));
        CHECK.refusesMissing("loaf 4", () -> x.loaf(4, 0, 0));
        CHECK.refusesMissing("loaf -1, the first of two", () -> x.loaf(-1, 99, 1000));
    }

    // ---- 26 to 38: lookups

    private static void losses() {
        CourtMoorhens x = Check.with("say 1 0 3;say 2 0 7;say 3 0 7;say 9 0 50;bird 1 3;");
        same("loss", x.loss(0), 1);
        same("its weight", x.loss(1), 7);
        Check.law(x, "1");
        same("the one that is left", x.loss(0), 0);
        CourtMoorhens y = Check.with("say 1 0 0;say 9 0 50;bird 1 1;");
        same("of weight 0", y.loss(0), 0);
        same("weight 0", y.loss(1), 0);
        CourtMoorhens z = Check.with("say 1 0 5;");
        same("all count", z.loss(0), -1);
        same("all count, weight", z.loss(1), -1);
        CHECK.refusesArgument("loss 2", () -> x.loss(2));
        CHECK.refusesArgument("loss -1", () -> x.loss(-1));
    }

    private static void nexts() {
        CourtMoorhens x = Check.with("say 7 0 3;say 2 0 7;say 2 0 9;say 5 0 50;bird 2 9;");
        same("next", x.next(0), 1);
        same("its minute", x.next(1), 2);
        Check.work(x, "minute;minute;");
        same("at this minute", x.next(0), 1);
        Check.work(x, "minute;");
        same("behind it", x.next(0), 3);
        Check.work(x, "again 4[minute;];");
        same("the last", x.next(0), 0);
        same("the last's minute", x.next(1), 7);
        Check.work(x, "minute;");
        same("there is none", x.next(0), -1);
        same("there is none, minute", x.next(1), -1);
        CHECK.refusesArgument("next 2", () -> x.next(2));
        CHECK.refusesArgument("next -1", () -> x.next(-1));
    }

    private static void sides() {
        CourtMoorhens x = Check.with("say 1 0 3;say 2 1 7;say 3 1 9;say 9 0 50;say 9 1 20;bird 2 1;so 0 0 3;");
        Check.work(x, "again 3[minute;];note 1;");
        same("heard of 0, not what follows", x.side(0, 0), 3);
        same("heard of 1", x.side(1, 0), 9);
        same("noted of 0", x.side(0, 1), 0);
        same("noted of 1", x.side(1, 1), 7);
        same("all of 0", x.side(0, 2), 53);
        same("all of 1", x.side(1, 2), 36);
        for (int wrong : new int[] {-1, 2, MIN, MAX}) {
            CHECK.refusesArgument("side " + wrong, () -> x.side(wrong, 0));
        }
        CHECK.refusesArgument("side 0 3", () -> x.side(0, 3));
        CHECK.refusesArgument("side 0 -1", () -> x.side(0, -1));
    }

    private static void leading() {
        CourtMoorhens x = Check.with("bird 2 1;counsel 9 0;counsel 0 9;counsel 3 0;counsel 4 0;");
        same("by 1", x.leaders(0, 1), 13);
        same("by 3", x.leaders(0, 3), 13);
        same("by 4", x.leaders(0, 4), 9);
        same("by 9", x.leaders(0, 9), 1);
        Check.work(x, "minute;minute;");
        same("it begins now", x.leaders(0, 1), 13);
        Check.work(x, "minute;");
        same("it began", x.leaders(0, 1), 0);
        CHECK.refusesArgument("leaders 0 0", () -> x.leaders(0, 0));
        CHECK.refusesArgument("leaders 0 10", () -> x.leaders(0, 10));
        CHECK.refusesMissing("leaders 1 1", () -> x.leaders(1, 1));
        CHECK.refusesMissing("leaders -1 0, the first of two", () -> x.leaders(-1, 0));
    }

    private static void rulesUsed() {
        CourtMoorhens x = Check.with("say 1 0 3;say 2 1 7;say 9 1 9;say 9 0 5;so 0 1 2;so 2 2 3;so 0 3 3;so 3 0 0;so 0 0 0;");
        same("none", x.used(), 0);
        Check.work(x, "minute;");
        same("a rule to itself", x.used(), 16);
        Check.work(x, "minute;");
        same("all, by what follows", x.used(), 31);
    }

    private static void overs() {
        CourtMoorhens x = Check.with("say 1 0 3;say 2 1 7;say 3 1 9;say 4 0 5;say 5 0 5;bird 2 3;bird 4 1;bird 5 20;");
        same("the first bird", x.over(0), 14);
        same("the second", x.over(1), 8);
        same("the third", x.over(2), 16);
        CHECK.refusesMissing("over 3", () -> x.over(3));
        CHECK.refusesMissing("over -1", () -> x.over(-1));
    }

    private static void delays() {
        CourtMoorhens x = Check.with("say 1 0 3;say 2 1 7;say 4 1 9;bird 2 3;bird 6 1;counsel 0 0;");
        same("counts", x.delay(0), 0);
        same("from 2 to 5", x.delay(1), 3);
        same("from 4 to 5", x.delay(2), 1);
        Check.work(x, "again 9[minute;];");
        same("whatever was said by now", x.delay(1), 3);
        Check.law(x, "9");
        same("by 2 to 14", x.delay(2), -1);
        Check.law(x, "steps * 4 - 3");
        same("by 9, from 2 to 10", x.delay(1), 9);
        CourtMoorhens y = Check.with("say 1 0 3;bird 0 10;");
        same("from 1 to 10", y.delay(0), 9);
        CourtMoorhens z = Check.with("say 1 0 3;bird 0 11;");
        same("from 1 to 11", z.delay(0), -1);
        CHECK.refusesMissing("delay 3", () -> x.delay(3));
        CHECK.refusesMissing("delay -1", () -> x.delay(-1));
    }

    private static void points() {
        CourtMoorhens x = Check.with("say 0 0 3;say 0 0 8;say 0 0 8;say 1 0 60;say 2 0 50;say 0 1 0;bird 1 1;");
        same("the heaviest of 0", x.point(0, 0), 1);
        same("its weight", x.point(0, 1), 8);
        same("of weight 0", x.point(1, 0), 5);
        same("weight 0", x.point(1, 1), 0);
        Check.work(x, "minute;");
        same("not one that does not count", x.point(0, 0), 1);
        Check.work(x, "minute;");
        same("one that is said by now", x.point(0, 0), 4);
        CourtMoorhens y = Check.with("say 1 0 3;say 0 1 3;");
        same("none", y.point(0, 0), -1);
        same("none, weight", y.point(0, 1), -1);
        for (int wrong : new int[] {-1, 2, MIN, MAX}) {
            CHECK.refusesArgument("point side " + wrong, () -> x.point(wrong, 0));
            CHECK.refusesArgument("point what " + wrong, () -> x.point(0, wrong));
        }
    }

    private static void purses() {
        CourtMoorhens x = Check.with("counsel 9 0;counsel 1 0;counsel 40 0;bird 30 1;");
        int[] due = {0, 9, 1, 10, 40, 49, 41, 50};
        for (int all = 0; all < 8; all++) {
            same("purse " + all, x.purse(all), due[all]);
        }
        Check.work(x, "lead 2 0 9;");
        same("by now", x.purse(7), 41);
        for (int wrong : new int[] {-1, 8, MIN, MAX}) {
            CHECK.refusesArgument("purse " + wrong, () -> x.purse(wrong));
        }
    }

    private static void twos() {
        same("no birds", new CourtMoorhens().pairs(), 0);
        same("one bird", Check.with("bird 3 3;").pairs(), 0);
        same("side by side", Check.with("bird 3 3;bird 6 3;").pairs(), 0);
        same("one minute together", Check.with("bird 3 4;bird 6 3;").pairs(), 1);
        same("one minute together, the later first", Check.with("bird 6 3;bird 3 4;").pairs(), 1);
        same("one inside the other", Check.with("bird 0 20;bird 6 3;").pairs(), 1);
        same("three", Check.with("bird 0 2;bird 1 2;bird 2 2;").pairs(), 2);
        same("four", Check.with("bird 0 9;bird 1 9;bird 2 9;bird 3 9;").pairs(), 6);
    }

    private static void crowds() {
        same("no birds", new CourtMoorhens().crowd(0), 0);
        same("no birds, how many", new CourtMoorhens().crowd(1), 0);
        CourtMoorhens x = Check.with("bird 3 5;bird 6 3;bird 20 5;bird 21 2;");
        same("the first with two", x.crowd(0), 6);
        same("two", x.crowd(1), 2);
        Check.law(x, "1 + steps * 4");
        same("the first with three", x.crowd(0), 21);
        same("three", x.crowd(1), 3);
        CourtMoorhens y = Check.with("bird 0 1;bird 9 1;");
        same("at 0", y.crowd(0), 0);
        CHECK.refusesArgument("crowd 2", () -> x.crowd(2));
        CHECK.refusesArgument("crowd -1", () -> x.crowd(-1));
    }

    private static void swings() {
        CourtMoorhens x = farm();
        same("0 were heard", x.swing(0), 9);
        same("2 and what follows", x.swing(2), 6 - 20);
        same("3", x.swing(3), -20);
        Check.work(x, "again 9[minute;];");
        same("lean", x.lean(), 9 + 6 - 20);
        same("0 were not heard", x.swing(0), 6 - 20);
        same("2 were not heard", x.swing(2), 9 - 20);
        same("3 were not heard, but follows", x.swing(3), 9 + 6 - 20);
        same("1 were heard", x.swing(1), 9 - 4 + 6 - 20);
        CHECK.refusesMissing("swing 4", () -> x.swing(4));
        CHECK.refusesMissing("swing -1", () -> x.swing(-1));
    }

    private static void whens() {
        CourtMoorhens x = farm();
        same("behind", x.when(0), 15);
        same("at", x.when(1), 0);
        same("ahead", x.when(2), 0);
        Check.work(x, "again 5[minute;];");
        same("behind 5", x.when(0), 12);
        same("at 5", x.when(1), 2);
        same("ahead of 5", x.when(2), 1);
        CourtMoorhens y = Check.with("say 0 0 1;say 1 0 1;say 2 0 1;say 3 0 1;say 4 0 1;");
        Check.work(y, "minute;minute;");
        same("one behind", y.when(0), 24);
        same("just now", y.when(1), 4);
        same("one ahead", y.when(2), 3);
        CHECK.refusesArgument("when 3", () -> x.when(3));
        CHECK.refusesArgument("when -1", () -> x.when(-1));
        CourtMoorhens far = farAway();
        same("at 400", far.when(0), 1);
        same("said at 400", far.saying(0, 0), 400);
    }

    // ---- 39 to 44: terms, images, counts

    private static void terms() {
        CourtMoorhens x = new CourtMoorhens();
        for (int what = 0; what < 4; what++) {
            same("nothing to do: " + what, x.term(5, 8, 48, what), 0);
        }
        oneMinute();
        CourtMoorhens y = Check.with("say 0 1 3;say 7 1 4;say 48 1 30;counsel 9 9;");
        same("without birds, minutes pass", y.term(1, 16, 1, 1), 3);
        same("to 7", y.term(1, 16, 7, 1), 7);
        same("to 48", y.term(1, 16, 48, 1), 37);
        same("crumbs stay", y.term(1, 16, 48, 3), 9);
        same("nothing is changed", y.told(4), 0);
        CourtMoorhens z = Check.with("bird 99 1;counsel 5 9;counsel 3 0;");
        same("Q 0: a call, and no more", z.term(1, 0, 48, 3), 7);
        Check.work(z, times(5, "again 40[minute;];"));
        same("behind all", z.term(1, 16, 48, 3), 8);
        CourtMoorhens late = Check.with("say 99 1 7;counsel 0 9;");
        Check.work(late, "again 40[put 0 0 9;];" + times(4, "again 40[minute;];"));
        Check.work(late, times(5, "again 40[minute;];"));
        Check.work(late, times(5, "again 40[minute;];"));
        same("beyond 400", late.term(1, 1, 48, 1), 7);
        for (int wrong : new int[] {-1, 17, MIN, MAX}) {
            CHECK.refusesArgument("term q " + wrong, () -> x.term(1, wrong, 1, 0));
        }
        for (int wrong : new int[] {-1, 0, 49, MIN, MAX}) {
            CHECK.refusesArgument("term minutes " + wrong, () -> x.term(1, 0, wrong, 0));
        }
        CHECK.refusesArgument("term what 4", () -> x.term(1, 0, 1, 4));
        CHECK.refusesArgument("term what -1", () -> x.term(1, 0, 1, -1));
    }

    /** The draws of one MINUTE, as the document has them. */
    private static final class Draws {
        private int seed;

        Draws(int seed) {
            this.seed = seed;
        }

        int below(int n) {
            seed = seed * 1103515245 + 12345;
            return (seed >>> 16) % 32768 % n;
        }
    }

    /** A TERM is what a WORK of the same draws would do. */
    private static void playsLike(String court, String law, String work, int q, int minutes) {
        int sayings = Check.with(court).told(0);
        int birds = Check.with(court).told(2);
        int counsels = Check.with(court).told(3);
        for (int seed = -20; seed < 20; seed++) {
            CourtMoorhens x = Check.with(court);
            CourtMoorhens by = Check.with(court);
            Check.law(x, law);
            Check.law(by, law);
            Check.work(x, work);
            Check.work(by, work);
            Draws draws = new Draws(seed * 79190719);
            for (int minute = 0; minute < minutes; minute++) {
                if (counsels > 0 && birds > 0) {
                    int counsel = draws.below(counsels);
                    int bird = draws.below(birds);
                    boolean lead = draws.below(16) < q;
                    Check.work(by, lead ? "lead " + counsel + " " + bird + " " + (1 + draws.below(9)) + ";"
                            : "call " + counsel + " " + bird + ";");
                }
                Check.work(by, sayings > 0 ? "note " + draws.below(sayings) + ";minute;" : "minute;");
            }
            int[] due = {by.told(5), by.lean(), by.told(8), by.purse((1 << counsels) - 1)};
            for (int what = 0; what < 4; what++) {
                same("term by seed " + seed * 79190719 + " in " + court + ", " + what,
                        x.term(seed * 79190719, q, minutes, what), due[what]);
            }
        }
    }

    private static void oneMinute() {
        String sayings = "say 0 1 3;say 0 0 7;say 5 1 20;say 3 0 30;say 1 1 40;";
        String birds = "bird 0 1;bird 0 4;bird 5 1;";
        String counsel = "counsel 40 0;counsel 20 0;";
        playsLike(sayings + birds + counsel, "steps", "", 9, 1);
        playsLike(sayings + birds + counsel, "steps", "", 9, 7);
        playsLike(sayings + birds + counsel, "steps + led % 3 - notes + crumbs % 4", "lead 0 1 2;lead 1 2 1;note 0;minute;", 12, 7);
        playsLike(times(8, "say 0 1 3;") + "say 1 0 50;" + times(3, "bird 0 3;") + "bird 2 1;" + times(3, "counsel 3 0;")
                + "counsel 40 9;", "1 + led + crumbs / 9 + notes", "lead 3 3 1;put 3 8 2;", 12, 7);
        playsLike(sayings + birds, "2 + notes", "", 9, 7);
        playsLike(sayings + counsel, "steps", "", 9, 7);
        playsLike(birds + counsel, "steps", "", 5, 7);
        playsLike("say 0 1 3;bird 0 3;counsel 9 0;", "1 + crumbs / 2", "note 0;", 8, 7);
        playsLike("say 1 1 3;bird 30 3;counsel 9 0;", "1 + crumbs / 2", "", 0, 7);
        playsLike("say 1 1 3;bird 0 3;counsel 40 0;", "1 + crumbs / 2", "", 16, 7);
    }

    private static void spans() {
        CourtMoorhens x = Check.with("say 0 1 3;say 4 0 7;say 9 1 20;say 9 0 11;bird 0 3;bird 8 4;counsel 40 0;counsel 20 0;");
        for (int many = 1; many <= 10; many++) {
            int least = MAX;
            int most = MIN;
            int counted = 0;
            for (int i = 0; i < many; i++) {
                least = Math.min(least, x.term(MAX - 4 + i, 6, 12, 1));
                most = Math.max(most, x.term(MAX - 4 + i, 6, 12, 1));
                counted += x.term(MAX - 4 + i, 6, 12, 0) >> 2 & 1;
            }
            same("the least of " + many, x.span(MAX - 4, many, 6, 12, 0, 3), least);
            same("the most of " + many, x.span(MAX - 4, many, 6, 12, 1, 3), most);
            same("how often of " + many, x.span(MAX - 4, many, 6, 12, 2, 2), counted);
        }
        same("all count", x.span(3, 10, 0, 1, 2, 1), 10);
        same("one lean of below 0", Check.with("say 0 0 9;").span(3, 10, 0, 1, 1, 0), -9);
        same("one lean above 0", Check.with("say 0 1 9;").span(3, 10, 0, 1, 0, 0), 9);
        same("the most of one lean below 0", Check.with("say 0 0 9;").span(3, 1, 0, 1, 1, 0), -9);
        same("the least of one lean above 0", Check.with("say 0 1 9;").span(3, 1, 0, 1, 0, 0), 9);
        same("one that never counts", Check.with("say 0 1 9;bird 0 1;").span(3, 10, 0, 9, 2, 0), 0);
        for (int wrong : new int[] {-1, 0, 11, MIN, MAX}) {
            CHECK.refusesArgument("span many " + wrong, () -> x.span(1, wrong, 0, 1, 0, 0));
        }
        for (int wrong : new int[] {-1, 17}) {
            CHECK.refusesArgument("span q " + wrong, () -> x.span(1, 1, wrong, 1, 0, 0));
        }
        for (int wrong : new int[] {-1, 0, 49}) {
            CHECK.refusesArgument("span minutes " + wrong, () -> x.span(1, 1, 0, wrong, 0, 0));
        }
        for (int wrong : new int[] {-1, 3}) {
            CHECK.refusesArgument("span what " + wrong, () -> x.span(1, 1, 0, 1, wrong, 0));
        }
        for (int what = 0; what < 3; what++) {
            int asked = what;
            CHECK.refusesArgument("span saying 4 for " + what, () -> x.span(1, 1, 0, 1, asked, 4));
            CHECK.refusesArgument("span saying -1 for " + what, () -> x.span(1, 1, 0, 1, asked, -1));
        }
        same("no missing was counted", x.status(0), 0);
    }

    private static void images() {
        CourtMoorhens x = farm();
        same("first", x.image(), 1);
        Check.work(x, "again 5[minute;];note 1;lead 0 1 3;put 0 2 1;note 3;");
        same("second", x.image(), 2);
        Check.work(x, "minute;call 0 1;note 1;");
        same("third", x.image(), 3);
        same("fourth", x.image(), -1);
        same("three are there", x.count(0), 3);
        Check.law(x, "5");
        Check.book(x, "1 1;");
        x.undo();
        x.undo();
        same("nothing to undo", x.count(2), 0);
        same("restore the third", x.restore(), 2);
        same("its works", x.count(2), 2);
        same("its minute", x.told(4), 6);
        same("its bird", x.bird(1, 0), 6);
        same("undo in it", x.undo(), 1);
        same("as ahead of the second work", x.bird(1, 0), 23);
        same("restore the second", x.restore(), 1);
        same("refused behind it", x.told(10), 0);
        same("the minute", x.told(4), 5);
        same("noted", x.told(8), 2);
        same("led", x.bird(1, 3), 3);
        same("begins", x.bird(1, 0), 23);
        same("crumbs", x.counsel(0, 0), 6);
        same("said", x.saying(2, 0), 9);
        same("works", x.count(2), 1);
        same("the law is the one of now", x.bird(0, 2), 5);
        same("the book is the one of now", x.told(9), 1);
        same("undo", x.undo(), 0);
        same("all as told", x.saying(2, 0), 8);
        Check.work(x, "minute;");
        same("restore the first", x.restore(), 0);
        same("as at first", x.told(4), 0);
        same("no works", x.undo(), -1);
        same("no image is left", x.restore(), -1);
    }

    private static void restores() {
        CourtMoorhens x = new CourtMoorhens();
        for (int i = 0; i < 16; i++) {
            Check.work(x, "minute;");
        }
        same("an image of 16 works", x.image(), 1);
        for (int i = 15; i >= 0; i--) {
            same("undo to " + i, x.undo(), i);
        }
        Check.work(x, "again 9[minute;];");
        same("restore them", x.restore(), 0);
        same("the minute", x.told(4), 16);
        for (int i = 15; i >= 0; i--) {
            same("undo again to " + i, x.undo(), i);
            same("the minute of " + i, x.told(4), i);
        }
        CourtMoorhens z = farm();
        Check.work(z, "minute;");
        Check.work(z, "minute;minute;put 0 2 2;");
        z.image();
        z.undo();
        z.undo();
        Check.work(z, "again 9[minute;];");
        Check.work(z, "lead 0 0 2;");
        Check.work(z, "lead 0 1 2;");
        same("an image of two works", z.restore(), 0);
        same("its state", z.told(4) * 100 + z.saying(2, 0), 310);
        same("undo its second", z.undo(), 1);
        same("as ahead of it", z.told(4) * 100 + z.saying(2, 0), 108);
        same("undo its first", z.undo(), 0);
        same("as told", z.told(4) * 100 + z.bird(1, 0), 20);
        CourtMoorhens y = farm();
        y.image();
        CHECK.refusesArgument("told 12", () -> y.told(12));
        CHECK.refusesMissing("bird 9", () -> y.bird(9, 0));
        Check.work(y, "minute;note 0;");
        same("refused", y.told(10), 1);
        y.restore();
        same("no image keeps 0", y.status(0), 1);
        same("no image keeps 1", y.status(1), 1);
        same("refused behind restore", y.told(10), 0);
        y.image();
        Check.feed(y, "minute;");
        y.restore();
        same("the tape is in no image", y.count(1), 20);
    }

    private static void statuses() {
        CourtMoorhens x = farm();
        CHECK.refusesMissing("saying 9 9", () -> x.saying(9, 9));
        CHECK.refusesMissing("proof 9", () -> x.proof(9));
        CHECK.refusesMissing("loaf 9", () -> x.loaf(9, 0, 0));
        CHECK.refusesArgument("lean at 500", () -> x.at(500, 2));
        CHECK.refusesArgument("court 1", () -> x.court(1));
        same("status 0", x.status(0), 3);
        same("status 1", x.status(1), 2);
        for (int what : new int[] {-1, 2, MIN, MAX}) {
            same("status " + what, x.status(what), -1);
        }
        Check.work(x, "note 9;");
        Check.work(x, "note 0;");
        x.undo();
        x.undo();
        x.restore();
        same("answers of -1 are not refused", x.status(1), 2);
        Check.court(x, FARM);
        same("a court keeps 0", x.status(0), 3);
        same("a court keeps 1", x.status(1), 2);
    }

    private static void counts() {
        CourtMoorhens x = farm();
        x.feed(0, 0, 0, 0, 0);
        x.feed(0, 0, 0, 0, 0);
        x.image();
        same("images", x.count(0), 1);
        same("bytes", x.count(1), 40);
        same("works", x.count(2), 0);
        x.work(0);
        x.work(0);
        x.work(0);
        same("works then", x.count(2), 3);
        same("bytes then", x.count(1), 0);
        for (int what : new int[] {-1, 3, MIN, MAX}) {
            same("count " + what, x.count(what), -1);
        }
        same("nothing is refused by that", x.status(1), 0);
    }

    public static void main(String[] args) {
        newObject();
        feed();
        courts();
        laws();
        works();
        books();
        faults();
        undos();
        tolds();
        leans();
        sayings();
        birds();
        counsels();
        woulds();
        ats();
        clears();
        hides();
        follow();
        proofs();
        turns();
        fitting();
        looks();
        kinds();
        orders();
        loaves();
        losses();
        nexts();
        sides();
        leading();
        rulesUsed();
        overs();
        delays();
        points();
        purses();
        twos();
        crowds();
        swings();
        whens();
        terms();
        spans();
        images();
        restores();
        statuses();
        counts();
        CHECK.end("PromiseTest");
    }
}
