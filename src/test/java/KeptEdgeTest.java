import java.util.function.LongSupplier;

/** The edges of what is kept: promises 41 to 44. */
public final class KeptEdgeTest extends Edges {
    private static final String SMALL = "say 0 1 1;say 2 0 4;say 5 1 2;bird 0 2;bird 3 2;counsel 9 2;counsel 1 0;";

    private static void promise41Image_threeAreTheMost() {
        CourtMoorhens x = court(SMALL);
        is(x.image(), 1);
        is(x.image(), 2);
        is(x.image(), 3);
        is(x.image(), -1);
        is(x.count(0), 3);
        is(x.restore(), 2);
        is(x.image(), 3);
        is(x.image(), -1);
    }

    private static void promise41Image_aFourthChangesNothing() {
        CourtMoorhens x = court(SMALL);
        x.image();
        x.image();
        x.image();
        Check.work(x, "minute;note 1;");
        stays(x, () -> x.image());
        x.restore();
        is(x.told(4), 0);
    }

    private static void promise41Image_changesNothing() {
        CourtMoorhens x = behind(SMALL, "note 0;note 1;");
        int refused = x.told(10);
        String before = state(x);
        is(x.image(), 1);
        is(x.told(10), refused);
        is(x.count(2), 1);
        isText(state(x), before);
    }

    private static void promise41Image_ofAllThatWorkChanges() {
        CourtMoorhens x = court("say 0 1 1;say 2 0 4;bird 0 2;bird 3 2;counsel 9 2;counsel 3 0;");
        Check.work(x, "note 0;minute;lead 0 1 2;put 0 1 2;lead 1 1 1;");
        String before = state(x);
        is(x.image(), 1);
        Check.work(x, "minute;call 0 1;note 0;put 0 1 1;");
        is(x.told(10), 0);
        is(x.restore(), 0);
        isText(state(x), before);
    }

    private static void promise41Image_ofTheWorksThatCanBeUndone() {
        CourtMoorhens x = behind(SMALL, "minute;", "minute;minute;", "");
        x.image();
        x.undo();
        x.undo();
        x.undo();
        for (int i = 0; i < 5; i++) {
            Check.work(x, "again 9[minute;];");
        }
        is(x.restore(), 0);
        is(x.count(2), 3);
        is(x.told(4), 3);
        is(x.undo(), 2);
        is(x.told(4), 3);
        is(x.undo(), 1);
        is(x.told(4), 1);
        is(x.undo(), 0);
        is(x.told(4), 0);
        is(x.undo(), -1);
    }

    private static void promise41Image_of16Works() {
        CourtMoorhens x = new CourtMoorhens();
        for (int i = 0; i < 16; i++) {
            Check.work(x, "minute;");
        }
        x.image();
        for (int i = 0; i < 16; i++) {
            x.undo();
        }
        x.restore();
        is(x.count(2), 16);
        is(x.told(4), 16);
        is(Check.work(x, ""), -20);
        for (int i = 15; i >= 0; i--) {
            is(x.undo(), i);
            is(x.told(4), i);
        }
    }

    private static void promise41Image_ofNoWorks() {
        CourtMoorhens x = court(SMALL);
        x.image();
        Check.work(x, "minute;");
        x.restore();
        is(x.count(2), 0);
        is(x.undo(), -1);
        is(x.told(4), 0);
    }

    private static void promise42Restore_less1IfThereIsNone() {
        CourtMoorhens x = court(SMALL);
        is(x.restore(), -1);
        stays(x, () -> x.restore());
        x.image();
        is(x.restore(), 0);
        is(x.restore(), -1);
    }

    private static void promise42Restore_theLatestWhichIsGone() {
        CourtMoorhens x = court(SMALL);
        for (int i = 1; i <= 3; i++) {
            Check.work(x, "minute;");
            is(x.image(), i);
        }
        Check.work(x, "minute;");
        for (int i = 2; i >= 0; i--) {
            is(x.restore(), i);
            is(x.told(4), i + 1);
            is(x.count(2), i + 1);
        }
        is(x.restore(), -1);
        is(x.told(4), 1);
    }

    private static void promise42Restore_lawBookTapeAndFaultAreNotInIt() {
        CourtMoorhens x = court(SMALL);
        x.image();
        Check.law(x, "7");
        Check.book(x, "1 1;");
        Check.law(x, "7+x");
        Check.feed(x, "minute;");
        x.restore();
        is(x.bird(0, 2), 7);
        is(x.told(9), 1);
        is(x.fault(), 2);
        is(x.count(1), 20);
    }

    private static void promise42Restore_walksByTheLawOfNow() {
        CourtMoorhens x = court("say 0 1 1;say 1 1 1;bird 0 2;");
        Check.law(x, "steps+notes");
        Check.work(x, "note 0;");
        is(x.bird(0, 2), 3);
        x.image();
        Check.work(x, "note 0;");
        Check.law(x, "5*notes");
        is(x.bird(0, 2), 1);
        x.restore();
        is(x.bird(0, 2), 5);
        x.undo();
        is(x.bird(0, 2), 1);
    }

    private static void promise42Restore_behindCourtThereIsNone() {
        CourtMoorhens x = court(SMALL);
        x.image();
        x.image();
        Check.court(x, "x");
        is(x.count(0), 2);
        Check.court(x, SMALL);
        is(x.restore(), -1);
    }

    private static void promise43Status_noneForOthers() {
        CourtMoorhens x = court(SMALL);
        is(x.status(0), 0);
        is(x.status(1), 0);
        for (int what : new int[] {-1, 2, MIN, MAX}) {
            is(x.status(what), -1);
        }
    }

    private static void countedAs(CourtMoorhens x, int what, LongSupplier call) {
        int due = x.status(what) + 1;
        int other = x.status(1 - what);
        if (what == 0) {
            isMissing(call);
        } else {
            isArgument(call);
        }
        is(x.status(what), due);
        is(x.status(1 - what), other);
    }

    private static void promise43Status_eachMissingOneIsCountedOnce() {
        CourtMoorhens x = court(SMALL);
        countedAs(x, 0, () -> x.saying(3, 0));
        countedAs(x, 0, () -> x.saying(3, 9));
        countedAs(x, 0, () -> x.bird(2, 0));
        countedAs(x, 0, () -> x.counsel(2, 0));
        countedAs(x, 0, () -> x.proof(3));
        countedAs(x, 0, () -> x.loaf(2, 9, 1000));
        countedAs(x, 0, () -> x.leaders(2, 0));
        countedAs(x, 0, () -> x.over(2));
        countedAs(x, 0, () -> x.delay(3));
        countedAs(x, 0, () -> x.swing(3));
        is(x.status(0), 10);
    }

    private static void promise43Status_eachWrongArgumentIsCountedOnce() {
        CourtMoorhens x = court(SMALL);
        countedAs(x, 1, () -> x.court(1));
        countedAs(x, 1, () -> x.law(1));
        countedAs(x, 1, () -> x.work(1));
        countedAs(x, 1, () -> x.book(1));
        countedAs(x, 1, () -> x.told(12));
        countedAs(x, 1, () -> x.saying(0, 6));
        countedAs(x, 1, () -> x.bird(0, 5));
        countedAs(x, 1, () -> x.counsel(0, 2));
        countedAs(x, 1, () -> x.would(0, 401, 161, 1000, 10, 4));
        countedAs(x, 1, () -> x.at(500, 3));
        countedAs(x, 1, () -> x.hide(8, 2));
        countedAs(x, 1, () -> x.follows(8));
        countedAs(x, 1, () -> x.fits(2));
        countedAs(x, 1, () -> x.look(2));
        countedAs(x, 1, () -> x.kind(13, 14, 17, 2));
        countedAs(x, 1, () -> x.order(100, 100, 3));
        countedAs(x, 1, () -> x.loaf(0, 4, 1000));
        countedAs(x, 1, () -> x.loss(2));
        countedAs(x, 1, () -> x.next(2));
        countedAs(x, 1, () -> x.side(2, 3));
        countedAs(x, 1, () -> x.leaders(0, 10));
        countedAs(x, 1, () -> x.point(2, 2));
        countedAs(x, 1, () -> x.purse(4));
        countedAs(x, 1, () -> x.crowd(2));
        countedAs(x, 1, () -> x.when(3));
        countedAs(x, 1, () -> x.term(1, 17, 49, 4));
        countedAs(x, 1, () -> x.span(1, 11, 17, 49, 3, 3));
        is(x.status(1), 27);
    }

    private static void promise43Status_whatIsAnsweredIsNotCounted() {
        CourtMoorhens x = court(SMALL);
        x.undo();
        x.restore();
        x.image();
        x.image();
        x.image();
        x.image();
        Check.work(x, "note 1;");
        Check.work(x, "note 9;");
        Check.law(x, "x");
        for (int i = 0; i < 17; i++) {
            Check.work(x, "");
        }
        Check.feed(x, times(600, " "));
        x.feed(0, 0, 0, 0, 0);
        x.status(9);
        x.count(9);
        is(x.status(0) + x.status(1), 0);
    }

    private static void promise43Status_noImageKeepsIt() {
        CourtMoorhens x = court(SMALL);
        isMissing(() -> x.over(9));
        x.image();
        isMissing(() -> x.over(9));
        isArgument(() -> x.told(99));
        x.restore();
        is(x.status(0), 2);
        is(x.status(1), 1);
    }

    private static void promise43Status_staysBehindCourtAndUndo() {
        CourtMoorhens x = court(SMALL);
        Check.work(x, "minute;");
        isMissing(() -> x.over(9));
        isArgument(() -> x.told(99));
        x.undo();
        Check.court(x, SMALL);
        is(x.status(0), 1);
        is(x.status(1), 1);
    }

    private static void promise44Count_noneForOthers() {
        CourtMoorhens x = court(SMALL);
        for (int what = 0; what <= 2; what++) {
            is(x.count(what), 0);
        }
        for (int what : new int[] {-1, 3, MIN, MAX}) {
            is(x.count(what), -1);
        }
        is(x.status(1), 0);
    }

    private static void promise44Count_theMostOfEach() {
        CourtMoorhens x = court(SMALL);
        for (int i = 0; i < 17; i++) {
            Check.work(x, "");
        }
        for (int i = 0; i < 4; i++) {
            x.image();
        }
        Check.feed(x, times(620, " "));
        is(x.count(0), 3);
        is(x.count(1), 600);
        is(x.count(2), 16);
    }

    private static void promise44Count_bytesOfTheTapeBehindATextAre0() {
        CourtMoorhens x = court(SMALL);
        for (int kind = 0; kind < 4; kind++) {
            Check.feed(x, times(40, " "));
            is(x.count(1), 40);
            int answer = kind == 0 ? x.law(1) : kind == 1 ? x.work(1) : kind == 2 ? x.book(1) : x.court(1);
            is(answer, kind == 0 ? -9 : 0);
            is(x.count(1), 0);
        }
    }

    public static void main(String[] args) throws IllegalAccessException {
        run(KeptEdgeTest.class);
    }
}
