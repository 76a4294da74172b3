/** The edges of the four texts: COURT, LAW, WORK, BOOK, their numbers, words, blanks and FAULTS, and promises 1 to 7. */
public final class TextEdgeTest extends Edges {
    /** Two SAYINGS, a BIRD, two COUNSEL. */
    private static final String SMALL = "say 0 1 1;say 5 0 2;bird 3 2;counsel 9 2;counsel 1 0;";
    /** All that a COURT can hold. */
    private static final String FULL = times(9, "say 1 1 1;") + times(12, "so 0 8 3;") + times(4, "bird 1 1;")
            + times(4, "counsel 1 1;");
    /** As numbers are 32 bits long, this is the least of them; one less is the greatest. */
    private static final String LEAST_VALUE = "128*128*256*512";

    // ---- A COURT is a text of up to 600 bytes

    private static void termCourt_mayBeTheEmptyText() {
        CourtMoorhens x = court(SMALL);
        is(Check.court(x, ""), 0);
        is(x.fault(), -1);
        is(x.told(2) + x.told(3), 0);
    }

    private static void termCourt_mayBeBlanksAlone() {
        is(Check.court(new CourtMoorhens(), times(13, " ")), 0);
    }

    private static void termCourt_has600BytesAtTheMost() {
        String text = stretched("say 7 1 9;", 600);
        CourtMoorhens x = new CourtMoorhens();
        is(Check.court(x, text), 1);
        is(x.saying(0, 2), 9);
    }

    private static void termCourt_of600BytesCanEndTooEarly() {
        courtFault("say 7 1 9" + times(591, " "), 1, 600);
    }

    private static void termCourt_of600BytesCanHaveItsFaultAtTheLast() {
        courtFault("say 7 1 9;" + times(589, " ") + "x", 1, 599);
    }

    private static void termCourt_holds29ClausesOfTheFourKindsAtTheMost() {
        CourtMoorhens x = court(FULL);
        is(x.told(0), 9);
        is(x.told(1), 12);
        is(x.told(2), 4);
        is(x.told(3), 4);
        // The 60 CLAUSES are never come to: whatever the 30th is, there are too many of its kind.
        for (String clause : new String[] {"say 1 1 1;", "so 0 0 0;", "bird 1 1;", "counsel 1 1;"}) {
            courtFault(FULL + clause, 3, FULL.length());
        }
    }

    private static void termCourt_clausesStandInAnyOrder() {
        CourtMoorhens x = court("counsel 7 3;bird 4 2;say 1 0 5;counsel 8 4;so 0 0 0;bird 6 1;say 2 1 6;so 1 0 1;");
        is(x.told(0) * 1000 + x.told(1) * 100 + x.told(2) * 10 + x.told(3), 2222);
        is(x.counsel(1, 0), 8);
        is(x.bird(1, 0), 6);
        is(x.saying(1, 2), 6);
    }

    private static void termCourt_eachClauseEndsWithItsSign() {
        courtFault("say 1 1 1", 1, 9);
        courtFault("say 1 1 1 say 1 1 1;", 1, 10);
        courtFault("say 1 1 1,", 1, 9);
        courtFault(";", 1, 0);
        courtFault("say 1 1 1;;", 1, 10);
    }

    private static void termSayings_areNumberedFrom0() {
        CourtMoorhens x = court("say 4 0 1;say 5 1 2;");
        is(x.saying(0, 0), 4);
        is(x.saying(1, 0), 5);
        isMissing(() -> x.saying(2, 0));
    }

    private static void termSayings_are9AtTheMost() {
        CourtMoorhens x = new CourtMoorhens();
        is(Check.court(x, times(8, "say 1 1 1;") + "say 9 0 8;"), 9);
        is(x.saying(8, 0), 9);
        courtFault(times(9, "say 1 1 1;") + "say 1 1 1;", 3, 90);
        courtFault(times(9, "say 1 1 1;") + "  say 1 1 1;", 3, 92);
    }

    private static void termSayings_minuteIs0To99() {
        is(court("say 0 0 0;").saying(0, 0), 0);
        is(court("say 99 0 0;").saying(0, 0), 99);
        courtFault("say 100 0 0;", 2, 4);
        courtFault("say 0 0 0;say 100 0 0;", 2, 14);
    }

    private static void termSayings_sideIs0Or1() {
        is(court("say 0 0 0;").saying(0, 1), 0);
        is(court("say 0 1 0;").saying(0, 1), 1);
        courtFault("say 0 2 0;", 2, 6);
    }

    private static void termSayings_weightIs0To60() {
        is(court("say 0 0 0;").saying(0, 2), 0);
        is(court("say 0 0 60;").saying(0, 2), 60);
        courtFault("say 0 0 61;", 2, 8);
    }

    private static void termRules_are12AtTheMost() {
        CourtMoorhens x = court("say 1 1 1;" + times(12, "so 0 0 0;"));
        is(x.told(1), 12);
        courtFault("say 1 1 1;" + times(12, "so 0 0 0;") + "so 0 0 0;", 3, 118);
        courtFault("say 1 1 1;" + times(12, "so 0 0 0;") + " so", 3, 119);
    }

    private static void termRules_aAndBMayBeOne() {
        CourtMoorhens x = court("say 1 1 1;say 1 1 1;so 0 0 1;");
        is(x.follows(1), 3);
    }

    private static void termRules_needBothAAndB() {
        CourtMoorhens x = court("say 1 1 1;say 1 1 1;say 1 1 1;so 0 1 2;");
        is(x.follows(1), 1);
        is(x.follows(2), 2);
        is(x.follows(3), 7);
    }

    private static void termRules_aIsToldAhead() {
        is(court("say 1 1 1;say 1 1 1;so 1 0 0;").told(1), 1);
        courtFault("so 0 0 0;say 1 1 1;", 2, 3);
        courtFault("say 1 1 1;so 1 0 0;say 1 1 1;", 2, 13);
    }

    private static void termRules_bIsToldAhead() {
        is(court("say 1 1 1;say 1 1 1;so 0 1 0;").told(1), 1);
        courtFault("say 1 1 1;so 0 1 0;say 1 1 1;", 2, 15);
    }

    private static void termRules_cIsToldAhead() {
        is(court("say 1 1 1;say 1 1 1;so 0 0 1;").told(1), 1);
        courtFault("say 1 1 1;so 0 0 1;say 1 1 1;", 2, 17);
    }

    private static void termRules_canNameTheNinthSayingAndNoTenth() {
        is(court(times(9, "say 1 1 1;") + "so 8 8 8;").told(1), 1);
        courtFault(times(9, "say 1 1 1;") + "so 8 8 9;", 2, 97);
    }

    private static void termBirds_are4AtTheMost() {
        CourtMoorhens x = court("bird 1 1;bird 2 1;bird 3 1;bird 4 7;");
        is(x.told(2), 4);
        is(x.bird(0, 0), 1);
        is(x.bird(3, 1), 7);
        isMissing(() -> x.bird(4, 0));
        courtFault(times(4, "bird 1 1;") + "bird 1 1;", 3, 36);
    }

    private static void termBirds_beginAtMinute0To99() {
        is(court("bird 0 1;").bird(0, 0), 0);
        is(court("bird 99 1;").bird(0, 0), 99);
        courtFault("bird 100 1;", 2, 5);
    }

    private static void termBirds_take1To20Steps() {
        is(court("bird 0 1;").bird(0, 1), 1);
        is(court("bird 0 20;").bird(0, 1), 20);
        courtFault("bird 0 0;", 2, 7);
        courtFault("bird 0 21;", 2, 7);
    }

    private static void termCounsel_are4AtTheMost() {
        CourtMoorhens x = court("counsel 1 1;counsel 2 1;counsel 3 1;counsel 4 7;");
        is(x.told(3), 4);
        is(x.counsel(0, 0), 1);
        is(x.counsel(3, 1), 7);
        isMissing(() -> x.counsel(4, 0));
        courtFault(times(4, "counsel 1 1;") + "counsel 1 1;", 3, 48);
    }

    private static void termCounsel_have0To40Crumbs() {
        is(court("counsel 0 1;").counsel(0, 0), 0);
        is(court("counsel 40 1;").counsel(0, 0), 40);
        courtFault("counsel 41 1;", 2, 8);
    }

    private static void termCounsel_areSlyBy0To9() {
        is(court("counsel 1 0;").counsel(0, 1), 0);
        is(court("counsel 1 9;").counsel(0, 1), 9);
        courtFault("counsel 1 10;", 2, 10);
    }

    // ---- A LAW is a text of up to 150 bytes

    private static void termLaw_withoutIsSteps() {
        CourtMoorhens x = court("bird 3 13;");
        is(x.bird(0, 2), 13);
        is(x.would(1, 400, 160, 999, 9, 3), 1);
        is(x.would(20, 400, 160, 999, 9, 3), 20);
    }

    private static void termLaw_isNotTheEmptyText() {
        lawFault("", 1, 0);
        lawFault("   ", 1, 3);
    }

    private static void termLaw_has150BytesAtTheMost() {
        walkIs(stretched("1+6", 150), 7);
        lawFault("1+6" + times(146, " ") + "x", 1, 149);
        lawFault("1+" + times(148, " "), 1, 150);
    }

    private static void termLaw_ofTheMostPieces() {
        walkIs(times(74, "1+") + "10", 40);
        walkIs(times(37, "9-9+") + "7", 7);
        walkIs(times(74, "1*") + "10", 10);
    }

    private static void termLaw_hasNothingMoreAtTheEnd() {
        lawFault("1 2", 1, 2);
        lawFault("1;", 1, 1);
        lawFault("1)", 1, 1);
        lawFault("1]", 1, 1);
        lawFault("1,2", 1, 1);
        lawFault("1(2)", 1, 1);
        lawFault("steps steps", 1, 6);
    }

    private static void termWalk_is1AtLeast() {
        walkIs("0", 1);
        walkIs("1", 1);
        walkIs("2", 2);
        walkIs("0-1", 1);
        walkIs(LEAST_VALUE, 1);
    }

    private static void termWalk_is40AtMost() {
        walkIs("39", 39);
        walkIs("40", 40);
        walkIs("41", 40);
        walkIs("999", 40);
        walkIs(LEAST_VALUE + "-1", 40);
    }

    private static void termLaw_aSumTakesItsTermsFromTheLeft() {
        walkIs("20-5-3", 12);
        walkIs("20-5+3", 18);
        lawFault("+1", 1, 0);
        lawFault("-1", 1, 0);
        lawFault("1+", 1, 2);
        lawFault("1+-1", 1, 2);
    }

    private static void termLaw_aTermTakesItsUnitsFromTheLeft() {
        walkIs("100/7/2", 7);
        walkIs("100/7*2", 28);
        walkIs("100%7*3", 6);
        walkIs("3*7%4", 1);
        walkIs("2+3*4", 14);
        walkIs("2*3+4", 10);
        lawFault("*1", 1, 0);
        lawFault("1*", 1, 2);
        lawFault("1%%1", 1, 2);
    }

    private static void termLaw_numbersAre0To999() {
        walkIs("0+7", 7);
        walkIs("999-990", 9);
        lawFault("1000", 2, 0);
        lawFault("7+ 1000", 2, 3);
    }

    private static void termLaw_words() {
        walkIs("steps", 5);
        walkIs("begin", 33);
        walkIs("crumbs", 21);
        walkIs("led", 12);
        walkIs("notes", 2);
        walkIs("bird", 3);
        for (String word : new String[] {"step", "stepss", "ledd", "note", "birds", "say", "again", "minute", "x", "Led"}) {
            lawFault("1+" + word, 1, 2);
        }
    }

    private static void termLaw_beginIsTheOneByNow() {
        CourtMoorhens x = court("bird 9 1;counsel 9 0;");
        Check.law(x, "begin");
        is(x.bird(0, 2), 9);
        Check.work(x, "lead 0 0 4;");
        is(x.bird(0, 2), 13);
        Check.work(x, "minute;call 0 0;");
        is(x.bird(0, 2), 1);
    }

    private static void termLaw_crumbsAreThoseOfAllCounselByNow() {
        CourtMoorhens x = court("bird 9 1;say 9 0 1;counsel 9 1;counsel 8 0;counsel 0 0;counsel 4 0;");
        Check.law(x, "crumbs");
        is(x.bird(0, 2), 21);
        Check.work(x, "lead 1 0 4;");
        is(x.bird(0, 2), 17);
        Check.work(x, "call 0 0;");
        is(x.bird(0, 2), 16);
        Check.work(x, "put 0 0 1;");
        is(x.bird(0, 2), 16);
    }

    private static void termLaw_crumbsAre0WithoutCounsel() {
        CourtMoorhens x = court("bird 9 1;");
        Check.law(x, "crumbs+7");
        is(x.bird(0, 2), 7);
    }

    private static void termLaw_ledIsByThatBirdAlone() {
        CourtMoorhens x = court("bird 9 1;bird 9 1;counsel 9 0;");
        Check.law(x, "led");
        Check.work(x, "lead 0 0 4;lead 0 0 2;call 0 0;");
        is(x.bird(0, 2), 6);
        is(x.bird(1, 2), 1);
    }

    private static void termLaw_notesAreThoseByNow() {
        CourtMoorhens x = court("say 0 0 1;say 0 0 1;bird 0 1;");
        Check.law(x, "9 + notes");
        is(x.bird(0, 2), 9);
        Check.work(x, "note 0;note 1;");
        is(x.bird(0, 2), 11);
        Check.work(x, "note 0;");
        is(x.bird(0, 2), 10);
    }

    private static void termLaw_birdIsItsNumber() {
        CourtMoorhens x = court(times(4, "bird 9 1;"));
        Check.law(x, "9 + bird");
        is(x.bird(0, 2), 9);
        is(x.bird(3, 2), 12);
    }

    private static void termLaw_leastIsTheLesserOfTwo() {
        walkIs("least[7,9]", 7);
        walkIs("least[9,7]", 7);
        walkIs("least[7,7]", 7);
        walkIs("9+least[0-3,3]", 6);
        walkIs("9+least[" + LEAST_VALUE + "," + LEAST_VALUE + "-1]%10", 1);
        lawFault("least", 1, 5);
        lawFault("least(7,9)", 1, 5);
        lawFault("least[7]", 1, 7);
        lawFault("least[7,9,8]", 1, 9);
        lawFault("least[,9]", 1, 6);
        lawFault("least[7,]", 1, 8);
        lawFault("least[7,9)", 1, 9);
        lawFault("least[7,9", 1, 9);
    }

    private static void termLaw_mostIsTheGreaterOfTwo() {
        walkIs("most[7,9]", 9);
        walkIs("most[9,7]", 9);
        walkIs("most[7,7]", 7);
        walkIs("9+most[0-3,0-4]", 6);
        walkIs("9+most[" + LEAST_VALUE + "," + LEAST_VALUE + "-1]%10", 16);
        lawFault("most", 1, 4);
        lawFault("most(7,9)", 1, 4);
        lawFault("most[7]", 1, 6);
        lawFault("most[7,9", 1, 8);
    }

    private static void termLaw_brackets() {
        walkIs("(7)", 7);
        walkIs("(2+3)*4", 20);
        lawFault("()", 1, 1);
        lawFault("(7", 1, 2);
        lawFault("(7]", 1, 2);
        lawFault(")7", 1, 0);
        lawFault("[7]", 1, 0);
    }

    private static void termValues_wrapBeyondTheGreatest() {
        // The greatest ends with 47, the least with 48.
        walkIs("(" + LEAST_VALUE + "-1)%100-40", 7);
        walkIs("(" + LEAST_VALUE + "-1+1)%100+55", 7);
    }

    private static void termValues_wrapBelowTheLeast() {
        walkIs(LEAST_VALUE + "%100+55", 7);
        walkIs("(" + LEAST_VALUE + "-2)%100-40", 6);
        walkIs("(0-" + LEAST_VALUE + ")%100+55", 7);
    }

    private static void termValues_wrapInProducts() {
        // 2 to the 32 is 0, and so is what is times that; 1 more stays.
        walkIs("128*128*256*512*2+7", 7);
        walkIs("(128*128*256*512+1)*2+7", 9);
        // 999 * 999 * 999 * 5 is 4985014995, by 32 bits 690047699.
        walkIs("999*999*999*5%100-90", 9);
        // 999 * 999 * 999 * 3 is 2991008997, by 32 bits -1303958299.
        walkIs("999*999*999*3%100+106", 7);
    }

    private static void termValues_theLeastByLess1WrapsToItself() {
        walkIs(LEAST_VALUE + "/(0-1)%100+55", 7);
        walkIs(LEAST_VALUE + "%(0-1)+7", 7);
    }

    private static void termValues_divisionCuts() {
        walkIs("15/2", 7);
        walkIs("(0-7)/2+10", 7);
        walkIs("7/(0-2)+10", 7);
        walkIs("(0-7)/(0-2)+10", 13);
        walkIs("1/2+7", 7);
        walkIs("(0-1)/2+7", 7);
    }

    private static void termValues_whatIsLeftHasTheSignOfWhatIsDivided() {
        walkIs("23%8", 7);
        walkIs("(0-7)%4+10", 7);
        walkIs("7%(0-4)+10", 13);
        walkIs("(0-7)%(0-4)+10", 7);
        walkIs("(0-8)%4+10", 10);
    }

    private static void termValues_by0BothAre0() {
        walkIs("9/0+7", 7);
        walkIs("9%0+7", 7);
        walkIs("0/0+7", 7);
        walkIs("0%0+7", 7);
        walkIs("9/(led-12)+7", 7);
        walkIs("9%(led-12)+7", 7);
        walkIs("9/(1/2)*9+7", 7);
    }

    // ---- WORK is a text of up to 150 bytes

    private static void termWork_mayBeTheEmptyText() {
        CourtMoorhens x = court(SMALL);
        is(Check.work(x, ""), 0);
        is(Check.work(x, "  "), 0);
        is(x.count(2), 2);
    }

    private static void termWork_has150BytesAtTheMost() {
        CourtMoorhens x = court(SMALL);
        is(Check.work(x, times(20, "minute;") + stretched("minute;", 10)), 21);
        workFault(SMALL, times(20, "minute;") + "    minute", 1, 150);
        workFault(SMALL, times(20, "minute;") + "minute;  x", 1, 149);
    }

    private static void termWork_eachStepEndsWithItsSign() {
        workFault(SMALL, "minute", 1, 6);
        workFault(SMALL, "minute minute;", 1, 7);
        workFault(SMALL, ";", 1, 0);
        workFault(SMALL, "minute;;", 1, 7);
        workFault(SMALL, "minute;]", 1, 7);
    }

    private static void termWork_callNamesCounselAndBird() {
        is(Check.work(court(SMALL), "call 1 0;"), 1);
        workFault(SMALL, "call 2 0;", 2, 5);
        workFault(SMALL, "call 1 1;", 2, 7);
        workFault(SMALL, "call 0;", 1, 6);
        workFault(SMALL, "call;", 1, 4);
        workFault("bird 1 1;", "call 0 0;", 2, 5);
        workFault("counsel 1 1;", "call 0 0;", 2, 7);
    }

    private static void termWork_leadNamesCounselAndBird() {
        is(Check.work(court(SMALL), "lead 1 0 1;"), 1);
        workFault(SMALL, "lead 2 0 1;", 2, 5);
        workFault(SMALL, "lead 1 1 1;", 2, 7);
        workFault(SMALL, "lead 1 0;", 1, 8);
        workFault("bird 1 1;", "lead 0 0 1;", 2, 5);
        workFault("counsel 1 1;", "lead 0 0 1;", 2, 7);
    }

    private static void termWork_leadIsBy1To9() {
        is(Check.work(court(SMALL), "lead 0 0 1;"), 1);
        is(Check.work(court(SMALL), "lead 0 0 9;"), 1);
        workFault(SMALL, "lead 0 0 0;", 2, 9);
        workFault(SMALL, "lead 0 0 10;", 2, 9);
    }

    private static void termWork_putNamesCounselAndSaying() {
        is(Check.work(court(SMALL), "put 0 1 1;"), 1);
        workFault(SMALL, "put 2 0 1;", 2, 4);
        workFault(SMALL, "put 1 2 1;", 2, 6);
        workFault(SMALL, "put 1 1;", 1, 7);
        workFault("say 1 1 1;", "put 0 0 1;", 2, 4);
        workFault("counsel 1 1;", "put 0 0 1;", 2, 6);
    }

    private static void termWork_putIsBy1To9() {
        is(Check.work(court("say 1 1 1;counsel 0 9;"), "put 0 0 1;"), 1);
        is(Check.work(court("say 1 1 1;counsel 0 9;"), "put 0 0 9;"), 1);
        workFault(SMALL, "put 0 0 0;", 2, 8);
        workFault(SMALL, "put 0 0 10;", 2, 8);
    }

    private static void termWork_noteNamesASaying() {
        is(Check.work(court("say 0 0 1;say 0 0 1;bird 0 1;"), "note 1;"), 1);
        workFault(SMALL, "note 2;", 2, 5);
        workFault(SMALL, "note;", 1, 4);
        workFault("bird 1 1;", "note 0;", 2, 5);
    }

    private static void termWork_minuteNamesNothing() {
        is(Check.work(new CourtMoorhens(), "minute;"), 1);
        workFault(SMALL, "minute 1;", 1, 7);
    }

    private static void termWork_againIs0To40Times() {
        CourtMoorhens x = new CourtMoorhens();
        is(Check.work(x, "again 0[minute;];"), 0);
        is(Check.work(x, "again 1[minute;];"), 1);
        is(Check.work(x, "again 40[minute;];"), 40);
        workFault("", "again 41[minute;];", 2, 6);
    }

    private static void termWork_againHoldsAnyStepsAlsoNone() {
        CourtMoorhens x = new CourtMoorhens();
        is(Check.work(x, "again 40[];"), 0);
        is(Check.work(x, "again 2[ ];"), 0);
        is(Check.work(x, "again 2[minute;minute;];"), 4);
        is(Check.work(x, "again 2[again 3[minute;];minute;];"), 8);
    }

    private static void termWork_againHasItsSigns() {
        workFault("", "again", 1, 5);
        workFault("", "again[];", 1, 5);
        workFault("", "again 1;", 1, 7);
        workFault("", "again 1(minute;);", 1, 7);
        workFault("", "again 1[minute];", 1, 14);
        workFault("", "again 1[minute;", 1, 15);
        workFault("", "again 1[minute;]", 1, 16);
        workFault("", "again 1[;];", 1, 8);
        workFault("", "again 1[minute;);", 1, 15);
    }

    // ---- A BOOK is one of up to 60 bytes

    private static void termBook_mayBeTheEmptyText() {
        CourtMoorhens x = court(SMALL);
        is(Check.book(x, "0 1;"), 1);
        is(Check.book(x, ""), 0);
        is(x.told(9), 0);
        is(Check.book(x, "  "), 0);
    }

    private static void termBook_has60BytesAtTheMost() {
        is(Check.book(court(SMALL), stretched("0 1;", 60)), 1);
        bookFault(SMALL, "0 1" + times(57, " "), 1, 60);
        bookFault(SMALL, "0 1;" + times(55, " ") + "x", 1, 59);
    }

    private static void termBook_has9LinesAtTheMost() {
        CourtMoorhens x = court(times(9, "say 1 0 1;"));
        is(Check.book(x, "8 1;7 1;6 1;5 1;4 1;3 1;2 1;1 1;0 1;"), 9);
        is(x.look(0), -1);
        bookFault(times(9, "say 1 0 1;"), "8 1;7 1;6 1;5 1;4 1;3 1;2 1;1 1;0 1;8 1;", 2, 36);
    }

    private static void termBook_namesSayings() {
        is(Check.book(court(SMALL), "1 1;"), 1);
        bookFault(SMALL, "2 1;", 2, 0);
        bookFault("bird 1 1;", "0 1;", 2, 0);
        bookFault(SMALL, "x 1;", 1, 0);
        bookFault(SMALL, "1;", 1, 1);
    }

    private static void termBook_nIs0Or1() {
        is(Check.book(court(SMALL), "1 0;0 1;"), 2);
        bookFault(SMALL, "1 2;", 2, 2);
    }

    private static void termBook_hasNoSayingTwice() {
        bookFault(SMALL, "1 0;1 0;", 2, 4);
        bookFault(SMALL, "1 0;1 1;", 2, 4);
        bookFault(SMALL, "0 0;1 0; 000 1;", 2, 9);
        // At the SAYING itself, ahead of what is wrong behind it.
        bookFault(SMALL, "1 0;1 7;", 2, 4);
        bookFault(SMALL, "1 0;1", 2, 4);
    }

    // ---- Numbers, words, blanks

    private static void termNumbers_haveAsManyDigitsAsStandThere() {
        is(court("say 0000000000000000000000000000099 1 1;").saying(0, 0), 99);
        is(court("say " + times(590, "0") + " 1 1;").told(0), 1);
        courtFault("say 990 1 1;", 2, 4);
        courtFault("say 1 1 1 1;", 1, 10);
    }

    private static void termNumbers_doNotWrap() {
        // 2 to the 32, to the 64, and such as would be 1 by so many bits.
        for (String number : new String[] {"2147483648", "4294967296", "4294967297", "18446744073709551616",
            "18446744073709551617", "340282366920938463463374607431768211457", times(140, "9"), "100000", "1000001"}) {
            courtFault("say " + number + " 1 1;", 2, 4);
            lawFault(number, 2, 0);
            workFault(SMALL, "note " + number + ";", 2, 5);
        }
        bookFault(SMALL, "4294967296 1;", 2, 0);
        bookFault(SMALL, "0 4294967297;", 2, 2);
    }

    private static void termNumbers_haveNoSign() {
        courtFault("say -1 1 1;", 1, 4);
        courtFault("say +1 1 1;", 1, 4);
        bookFault(SMALL, "-1 1;", 1, 0);
        workFault(SMALL, "note -1;", 1, 5);
    }

    private static void termNumbers_areDigitsAlone() {
        courtFault("say / 1 1;", 1, 4);
        courtFault("say : 1 1;", 1, 4);
        courtFault("say 1/ 1 1;", 1, 5);
        courtFault("say 1: 1 1;", 1, 5);
        courtFault("say one 1 1;", 1, 4);
    }

    private static void termWords_areSmallLettersAlone() {
        courtFault("Say 1 1 1;", 1, 0);
        courtFault("sAy 1 1 1;", 1, 0);
        courtFault("say` 1 1 1;", 1, 3);
        courtFault("say{ 1 1 1;", 1, 3);
        courtFault("say@ 1 1 1;", 1, 3);
    }

    private static void termWords_haveAsManyLettersAsStandThere() {
        courtFault("says 1 1 1;", 1, 0);
        courtFault("sa 1 1 1;", 1, 0);
        courtFault("saysay 1 1 1;", 1, 0);
        courtFault("sayz 1 1 1;", 1, 0);
        courtFault("asay 1 1 1;", 1, 0);
        courtFault("ay 1 1 1;", 1, 0);
        for (String word : new String[] {"bay", "sbx", "sby", "sbb", "sey", "sax"}) {
            courtFault(word + " 1 1 1;", 1, 0);
        }
        courtFault("sayx1 1 1;", 1, 0);
        courtFault("sob 1 1;", 1, 0);
        workFault(SMALL, "minutes;", 1, 0);
        workFault(SMALL, "againx 1[];", 1, 0);
        is(court("say1 1 1;").told(0), 1);
    }

    private static void termBlanks_mayStandAheadOfAll() {
        CourtMoorhens x = new CourtMoorhens();
        is(Check.court(x, "   say   1   1   1   ;  say 2 0 2 ; bird 3 4 ; counsel 5 6 ; "), 2);
        is(Check.law(x, "  ( 1 + most [ 2 , 3 ] ) * 2  "), 1);
        is(x.bird(0, 2), 8);
        is(Check.work(x, "  again  2  [  minute  ;  ]  ;  "), 2);
        is(Check.book(x, "  0  1  ;  1  1  ;  "), 2);
    }

    private static void termBlanks_areNotNeededBetweenWordAndNumberAndSign() {
        CourtMoorhens x = new CourtMoorhens();
        is(Check.court(x, "say1 1 1;say2 0 2;bird3 4;counsel5 6;"), 2);
        is(Check.work(x, "again2[lead0 0 1;];"), 2);
        is(Check.law(x, "1*2"), 1);
    }

    private static void termBlanks_areNotOtherSigns() {
        for (int sign : new int[] {0, 9, 10, 13, 31, 33, 127, 128, 160, 255}) {
            courtFault("say 1 1 1;" + (char) sign, 1, 10);
            courtFault((char) sign + "say 1 1 1;", 1, 0);
            lawFault("7" + (char) sign, 1, 1);
        }
    }

    private static void termBlanks_doNotStandInsideNumbersAndWords() {
        courtFault("sa y 1 1 1;", 1, 0);
        courtFault("say 1 1 1 0;", 1, 10);
        lawFault("1 0", 1, 2);
        lawFault("st eps", 1, 0);
    }

    // ---- FAULTS

    private static void termFaults_theFirstFromTheLeftIsTold() {
        courtFault("say 100 2 61;", 2, 4);
        courtFault("say 1 2 61;", 2, 6);
        courtFault("say 1 1 61 x", 2, 8);
        courtFault("x say 100 1 1;", 1, 0);
        courtFault("say 1 1 1 x say 100 1 1;", 1, 10);
        courtFault(times(4, "bird 1 1;") + "bird 100 1;", 3, 36);
        courtFault("bird 100 1;" + times(4, "bird 1 1;"), 2, 5);
        lawFault("1000+x", 2, 0);
        lawFault("x+1000", 1, 0);
        workFault(SMALL, "note 9;x", 2, 5);
        bookFault(SMALL, "0 1;0 9;x", 2, 4);
    }

    private static void termFaults_standAtTheFirstByteBehindBlanks() {
        courtFault("   x", 1, 3);
        courtFault("say    100 1 1;", 2, 7);
        courtFault(times(4, "bird 1 1;") + "    bird 1 1;", 3, 40);
        lawFault("   1000", 2, 3);
        workFault(SMALL, "  walk;", 1, 2);
        bookFault(SMALL, "  0   2;", 2, 6);
    }

    private static void termFault1_isAtTheLengthIfTheTextEndsTooEarly() {
        String clause = "counsel 1 1";
        for (int length : new int[] {7, 8, 9, 10, 11}) {
            courtFault(clause.substring(0, length), 1, length);
        }
        courtFault("say 1 1 1;say   ", 1, 16);
        lawFault("1+  ", 1, 4);
        workFault(SMALL, "note  ", 1, 6);
        bookFault(SMALL, "1  ", 1, 3);
    }

    private static void termFault1_isAtTheLengthThoughTheTapeGoesOn() {
        // 7 bytes of the TAPE are the text, and "1 1;" stands behind them.
        CourtMoorhens x = new CourtMoorhens();
        Check.feed(x, "say 99 1 1;");
        faultIs(x, x.court(7), 1, 7);
        CourtMoorhens y = court(SMALL);
        Check.feed(y, "note 1;");
        faultIs(y, y.work(5), 1, 5);
        Check.feed(y, "12;");
        is(y.law(1), 1);
        is(y.would(7, 0, 0, 0, 0, 0), 1);
        Check.feed(y, "minute;");
        faultIs(y, y.work(3), 1, 0);
        Check.feed(y, "minutes;");
        faultIs(y, y.work(6), 1, 6);
        Check.feed(y, "stepsteps");
        is(y.law(5), 1);
        Check.feed(y, "note      1;");
        faultIs(y, y.work(6), 1, 6);
        Check.feed(y, "          ");
        faultIs(y, y.law(4), 1, 4);
    }

    private static void termFault2_isANumberThatIsNoneSuch() {
        courtFault("say 1 1 61;", 2, 8);
        lawFault("1000", 2, 0);
        workFault(SMALL, "again 41[];", 2, 6);
        bookFault(SMALL, "0 2;", 2, 2);
    }

    private static void termFault3_isAtTheWordOfTheOneTooMany() {
        courtFault(times(9, "say 1 1 1;") + "say", 3, 90);
        courtFault("say 1 1 1;" + times(12, "so 0 0 0;") + "so 9 9 9;", 3, 118);
        courtFault(times(4, "bird 1 1;") + "bird 0 0;", 3, 36);
        courtFault(times(4, "counsel 1 1;") + "counsel 99 99;", 3, 48);
    }

    private static void termFault3_isNotForAWordThatIsNone() {
        courtFault(times(9, "say 1 1 1;") + "says", 1, 90);
        lawFault(times(6, "(") + "leastx[1,2]", 1, 6);
        workFault("", times(6, "again 1[") + "agains 1[];", 1, 48);
    }

    private static void termFault3_isThe7thBracketThatIsOpen() {
        walkIs(times(6, "(") + "7" + times(6, ")"), 7);
        lawFault(times(7, "(") + "7" + times(7, ")"), 3, 6);
        lawFault(times(6, "( ") + " (", 3, 13);
    }

    private static void termFault3_isThe7thLeastThatIsOpen() {
        walkIs(times(6, "least[") + "7" + times(6, ",9]"), 7);
        lawFault(times(7, "least["), 3, 36);
        walkIs(times(6, "least[9,") + "7" + times(6, "]"), 7);
        lawFault(times(6, "least[9,") + " least", 3, 49);
    }

    private static void termFault3_isThe7thMostThatIsOpen() {
        walkIs(times(6, "most[") + "7" + times(6, ",3]"), 7);
        lawFault(times(7, "most["), 3, 30);
        walkIs(times(6, "most[3,") + "7" + times(6, "]"), 7);
        lawFault(times(6, "most[3,") + "most", 3, 42);
    }

    private static void termFault3_countsTheThreeOfALawTogether() {
        walkIs("(least[most[(least[most[7,6],9]),6],9])", 7);
        lawFault("(least[most[(least[most[(7),6],9]),6],9])", 3, 24);
        lawFault("(least[most[(least[most[7,least[1,2]],9]),6],9])", 3, 26);
        lawFault("(least[most[(least[most[7,most[1,2]],9]),6],9])", 3, 26);
    }

    private static void termFault3_countsThoseAloneThatAreOpen() {
        walkIs(times(9, "(1)+") + times(6, "(") + "1" + times(6, ")"), 10);
        walkIs("most[1,2]+most[1,2]+least[3,4]+((((((1))))))+(1)", 9);
        CourtMoorhens x = new CourtMoorhens();
        is(Check.work(x, times(9, "again 1[];") + "again 1[minute;];"), 1);
        is(Check.work(x, times(6, "again1[") + "minute;" + times(6, "];") + "again1[minute;];"), 2);
    }

    private static void termFault3_isThe7thAgainThatIsOpen() {
        is(Check.work(new CourtMoorhens(), times(6, "again 1[") + "minute;" + times(6, "];")), 1);
        workFault("", times(7, "again 1[") + times(7, "];"), 3, 48);
        workFault("", times(6, "again 1[") + "again", 3, 48);
        workFault("", times(5, "again 1[") + "again 0[minute; again 1[];];", 3, 56);
    }

    private static void termFaults_ofOneTheLeast() {
        // Where a number or a sign is due, the word of one too many can't stand.
        courtFault(times(8, "say 1 1 1;") + "say 1 1 1 say 1 1 1;", 1, 90);
        courtFault(times(9, "say 1 1 1;") + "so say", 1, 93);
        lawFault("((((((1(", 1, 7);
        lawFault("((((((1 least[1,2]", 1, 8);
        workFault("", times(6, "again 1[") + "minute again", 1, 55);
        bookFault(SMALL, "0 1;1 0", 1, 7);
    }

    // ---- Promises 1 to 7

    private static void promise01New_hasNoClauses() {
        CourtMoorhens x = new CourtMoorhens();
        for (int what = 0; what <= 11; what++) {
            is(x.told(what), 0);
        }
        isMissing(() -> x.saying(0, 0));
        isMissing(() -> x.bird(0, 0));
        isMissing(() -> x.counsel(0, 0));
    }

    private static void promise01New_hasNothingElse() {
        CourtMoorhens x = new CourtMoorhens();
        is(x.fault(), -1);
        is(x.undo(), -1);
        is(x.restore(), -1);
        is(x.count(0) + x.count(1) + x.count(2), 0);
        is(x.status(0) + x.status(1), 0);
    }

    private static void promise01New_objectsShareNothing() {
        CourtMoorhens x = new CourtMoorhens();
        CourtMoorhens y = behind(SMALL, "minute;");
        y.image();
        y.feed(1, 2, 3, 4, 5);
        Check.law(y, "x");
        is(x.told(0) + x.told(4) + x.count(0) + x.count(1) + x.count(2), 0);
        is(x.fault(), -1);
    }

    private static void promise02Feed_eachNumberTheHighestFirst() {
        CourtMoorhens x = new CourtMoorhens();
        is(x.feed(0x73617920, 0x20312031, 0x2036303b, 0x62697264, 0x2038203b), 20);
        is(x.court(12), 1);
        is(x.saying(0, 2), 60);
    }

    private static void promise02Feed_takesBytesAbove127() {
        CourtMoorhens x = new CourtMoorhens();
        is(x.feed(-1, MIN, MAX, 0x80808080, 0xe9e9e9e9), 20);
        faultIs(x, x.court(20), 1, 0);
        x.feed(0x373780ff, 0, 0, 0, 0);
        faultIs(x, x.law(3), 1, 2);
    }

    private static void promise02Feed_600BytesAreTheMost() {
        CourtMoorhens x = new CourtMoorhens();
        for (int i = 1; i <= 30; i++) {
            is(x.feed(0, 0, 0, 0, 0), 20 * i);
        }
        is(x.feed(0, 0, 0, 0, 0), -1);
        is(x.count(1), 600);
    }

    private static void promise02Feed_doesNothingBeyond600() {
        CourtMoorhens x = new CourtMoorhens();
        Check.feed(x, stretched("say 7 1 9;", 600));
        is(x.feed(0x78787878, 0x78787878, 0x78787878, 0x78787878, 0x78787878), -1);
        is(x.feed(0x78787878, 0x78787878, 0x78787878, 0x78787878, 0x78787878), -1);
        is(x.court(600), 1);
        is(x.saying(0, 2), 9);
    }

    private static void promise02Feed_goesOnBehindAText() {
        CourtMoorhens x = new CourtMoorhens();
        Check.feed(x, times(600, " "));
        is(x.court(0), 0);
        is(x.feed(0, 0, 0, 0, 0), 20);
    }

    private static void promise03Court_answersHowManySayings() {
        is(Check.court(new CourtMoorhens(), "bird 1 1;counsel 1 1;"), 0);
        is(Check.court(new CourtMoorhens(), FULL), 9);
    }

    private static void promise03Court_theTapeIsEmptyThen() {
        CourtMoorhens x = new CourtMoorhens();
        Check.feed(x, "say 1 1 1;say 2 1 1;");
        is(x.court(10), 1);
        is(x.count(1), 0);
        isArgument(() -> x.court(10));
        is(x.court(0), 0);
    }

    private static void promise03Court_nIs0ToTheTapesBytes() {
        CourtMoorhens x = court(SMALL);
        Check.feed(x, times(40, " "));
        for (int n : new int[] {-1, 41, 600, 601, MIN, MAX}) {
            isArgument(() -> x.court(n));
            stays(x, () -> x.court(n));
            is(x.count(1), 40);
        }
        is(x.court(40), 0);
        isArgument(() -> x.court(1));
        is(x.court(0), 0);
    }

    private static CourtMoorhens withAll() {
        CourtMoorhens x = court("say 0 1 1;say 2 0 4;say 1 1 2;bird 0 2;bird 3 2;counsel 9 2;counsel 1 0;so 0 2 1;");
        Check.law(x, "steps+1");
        Check.book(x, "1 0;");
        Check.work(x, "note 0;note 1;lead 0 1 2;put 0 1 2;minute;");
        x.image();
        Check.work(x, "note 1;minute;");
        return x;
    }

    private static void promise03Court_allButTheTapeStaysByAFault() {
        CourtMoorhens x = withAll();
        String before = all(x);
        Check.feed(x, "say 1 1 1;bird 7 7;counsel 7 7;so 0 0 0;so 0 0 1;");
        is(x.court(49), -8);
        is(x.fault(), 47);
        is(x.count(1), 0);
        // fault() alone differs: it is set back by a text that is as before.
        is(Check.book(x, "1 0;"), 1);
        isText(all(x), before);
        is(x.undo(), 1);
        is(x.told(4), 1);
        is(x.restore(), 0);
    }

    private static void promise03Court_noLawIsLeft() {
        CourtMoorhens x = withAll();
        Check.law(x, "9+7");
        Check.court(x, "bird 0 2;");
        is(x.bird(0, 2), 2);
        is(x.would(7, 1, 1, 1, 1, 1), 7);
    }

    private static void promise03Court_noBookIsLeft() {
        CourtMoorhens x = withAll();
        Check.court(x, "say 0 0 0;say 0 0 0;");
        is(x.told(9), 0);
        is(x.look(0), 0);
    }

    private static void promise03Court_noImagesAreLeft() {
        CourtMoorhens x = withAll();
        Check.court(x, "say 0 0 0;");
        is(x.count(0), 0);
        is(x.restore(), -1);
        is(x.image(), 1);
    }

    private static void promise03Court_nothingToUndoIsLeft() {
        CourtMoorhens x = withAll();
        Check.court(x, "say 0 0 0;");
        is(x.count(2), 0);
        is(x.undo(), -1);
        is(Check.work(x, "minute;"), 1);
        is(x.undo(), 0);
        is(x.told(4), 0);
    }

    private static void promise03Court_allIsAsToldAtMinute0() {
        CourtMoorhens x = withAll();
        is(x.bird(1, 3), 2);
        Check.court(x, "say 4 1 1;say 5 1 1;bird 3 2;bird 6 2;counsel 8 2;");
        is(x.told(4), 0);
        is(x.saying(0, 0), 4);
        is(x.saying(1, 0), 5);
        is(x.bird(0, 0), 3);
        is(x.bird(1, 0), 6);
        is(x.bird(0, 3) + x.bird(1, 3), 0);
        is(x.counsel(0, 0), 8);
        is(x.told(8), 0);
    }

    private static void promise03Court_noBirdIsLedThen() {
        String text = times(4, "bird 5 1;") + "counsel 40 0;";
        CourtMoorhens x = behind(text, "lead 0 0 1;lead 0 1 2;lead 0 2 3;lead 0 3 4;");
        Check.court(x, text);
        for (int bird = 0; bird < 4; bird++) {
            is(x.bird(bird, 0) * 10 + x.bird(bird, 3), 50);
        }
    }

    private static void promise03Court_fewerOfEachThanBefore() {
        String full = times(9, "say 0 1 60;") + times(12, "so 0 0 8;") + times(4, "bird 0 20;") + times(4, "counsel 40 9;");
        for (String few : new String[] {"say 0 0 1;so 0 0 0;bird 3 2;counsel 1 0;", "say 5 0 1;bird 3 2;",
            "bird 9 1;counsel 2 0;", times(8, "say 3 1 1;") + times(3, "bird 3 1;counsel 2 0;"), " "}) {
            CourtMoorhens x = behind(full, "minute;lead 0 0 9;note 8;note 7;");
            Check.book(x, "8 1;0 0;");
            // What was asked of the fuller one is asked again.
            is(all(x).equals(all(court(few))) ? 1 : 0, 0);
            Check.court(x, few);
            isText(all(x), all(court(few)));
        }
    }

    private static void promise03Court_theEmptyOneEmptiesAll() {
        CourtMoorhens x = withAll();
        is(x.court(0), 0);
        isText(all(x), all(new CourtMoorhens()));
    }

    private static void promise04Law_nIs0To150() {
        CourtMoorhens x = withAll();
        Check.feed(x, "7" + times(159, " "));
        for (int n : new int[] {-1, 151, 160, 161, MIN, MAX}) {
            isArgument(() -> x.law(n));
            stays(x, () -> x.law(n));
            is(x.count(1), 160);
        }
        is(x.law(150), 1);
        is(x.bird(0, 2), 7);
    }

    private static void promise04Law_nIsNotAboveTheTapesBytes() {
        CourtMoorhens x = withAll();
        isArgument(() -> x.law(1));
        Check.feed(x, "7");
        isArgument(() -> x.law(21));
        is(x.count(1), 20);
        is(x.law(1), 1);
    }

    private static void promise04Law_theTapeIsEmptyThen() {
        CourtMoorhens x = new CourtMoorhens();
        Check.feed(x, "7" + times(300, " "));
        is(x.law(1), 1);
        is(x.count(1), 0);
    }

    private static void promise04Law_allButTheTapeStaysByAFault() {
        CourtMoorhens x = withAll();
        String before = all(x);
        is(Check.law(x, "9+8+1000"), -8);
        is(x.fault(), 4);
        Check.book(x, "1 0;");
        isText(all(x), before);
    }

    private static void promise04Law_allButTheLawStays() {
        CourtMoorhens x = withAll();
        is(Check.law(x, "40"), 1);
        is(x.bird(0, 2), 40);
        is(x.told(4) * 1000 + x.told(8) * 100 + x.told(9) * 10 + x.told(10), 2111);
        is(x.count(0) * 10 + x.count(2), 12);
        is(x.undo(), 1);
        is(x.told(8), 1);
    }

    private static void promise04Law_theLatestOneHolds() {
        CourtMoorhens x = court("bird 0 2;");
        Check.law(x, "1+2+3+4");
        Check.law(x, "7");
        is(x.bird(0, 2), 7);
        Check.law(x, "steps*steps");
        is(x.bird(0, 2), 4);
    }

    private static void promise05Work_nIs0To150() {
        CourtMoorhens x = withAll();
        Check.feed(x, "minute;" + times(153, " "));
        for (int n : new int[] {-1, 151, 160, 161, MIN, MAX}) {
            isArgument(() -> x.work(n));
            stays(x, () -> x.work(n));
            is(x.count(1), 160);
        }
        is(x.work(150), 1);
        is(x.told(4), 3);
    }

    private static void promise05Work_nIsNotAboveTheTapesBytes() {
        CourtMoorhens x = withAll();
        isArgument(() -> x.work(1));
        Check.feed(x, "minute;");
        isArgument(() -> x.work(21));
        is(x.count(1), 20);
        is(x.work(7), 1);
        is(x.count(1), 0);
    }

    private static void promise05Work_refusedOnesAndAgainsAreNotCounted() {
        CourtMoorhens x = court("say 0 0 1;");
        is(Check.work(x, "note 0;again 3[note 0;minute;];again 0[minute;];"), 3);
        is(x.told(10), 4);
    }

    private static void promise05Work_noneIsDoneByAFault() {
        CourtMoorhens x = withAll();
        String before = all(x);
        is(Check.work(x, "minute;note 1;lead 0 1 1;lead 0 1 0;"), -8);
        is(x.fault(), 34);
        Check.book(x, "1 0;");
        isText(all(x), before);
    }

    private static CourtMoorhens with16Works() {
        CourtMoorhens x = court("say 0 0 1;bird 0 2;");
        for (int i = 1; i <= 15; i++) {
            is(Check.work(x, i % 2 == 0 ? "" : "minute;"), i % 2);
        }
        is(x.count(2), 15);
        is(Check.work(x, "again 41[];"), -8);
        is(Check.work(x, "note 0;note 0;again 41"), -8);
        is(Check.work(x, "minute;minute;" + times(9, "again 0[];")), 2);
        is(x.count(2), 16);
        return x;
    }

    private static void promise05Work_16AreTheMost() {
        CourtMoorhens x = with16Works();
        is(Check.work(x, "minute;"), -20);
        is(Check.work(x, ""), -20);
        is(x.count(2), 16);
        is(x.told(4), 10);
    }

    private static void promise05Work_beyond16NothingIsReadAndTheTapeIsEmpty() {
        CourtMoorhens x = with16Works();
        Check.law(x, "9+x");
        is(x.fault(), 2);
        Check.feed(x, "minute;");
        is(x.work(7), -20);
        is(x.fault(), -1);
        is(x.count(1), 0);
    }

    private static void promise05Work_less20StandsAheadOfTheFault() {
        CourtMoorhens x = with16Works();
        is(Check.work(x, "walk;"), -20);
        is(x.fault(), -1);
    }

    private static void promise05Work_theExceptionStandsAheadOfLess20() {
        CourtMoorhens x = with16Works();
        Check.feed(x, times(160, " "));
        for (int n : new int[] {-1, 151, 161, MIN, MAX}) {
            isArgument(() -> x.work(n));
            is(x.count(1), 160);
        }
        is(x.work(150), -20);
        is(x.count(1), 0);
    }

    private static void promise05Work_16AreCountedThatWereNotUndone() {
        CourtMoorhens x = with16Works();
        is(x.undo(), 15);
        is(Check.work(x, "minute;"), 1);
        is(Check.work(x, "minute;"), -20);
    }

    private static void promise05Work_16AreCountedByTheImageThatIsRestored() {
        CourtMoorhens x = court("say 0 0 1;");
        Check.work(x, "minute;");
        x.image();
        for (int i = 2; i <= 16; i++) {
            is(Check.work(x, ""), 0);
        }
        is(Check.work(x, ""), -20);
        x.restore();
        for (int i = 2; i <= 16; i++) {
            is(Check.work(x, ""), 0);
        }
        is(Check.work(x, ""), -20);
    }

    private static void promise06Book_nIs0To60() {
        CourtMoorhens x = withAll();
        Check.feed(x, "0 1;2 1;" + times(72, " "));
        for (int n : new int[] {-1, 61, 80, 81, MIN, MAX}) {
            isArgument(() -> x.book(n));
            stays(x, () -> x.book(n));
            is(x.count(1), 80);
        }
        is(x.book(60), 2);
        is(x.count(1), 0);
    }

    private static void promise06Book_nIsNotAboveTheTapesBytes() {
        CourtMoorhens x = withAll();
        isArgument(() -> x.book(1));
        Check.feed(x, "0 1;");
        isArgument(() -> x.book(21));
        is(x.count(1), 20);
        is(x.book(4), 1);
    }

    private static void promise06Book_allButTheTapeStaysByAFault() {
        CourtMoorhens x = withAll();
        String before = all(x);
        is(Check.book(x, "0 1;2 1;0 0;"), -8);
        is(x.fault(), 8);
        Check.law(x, "steps+1");
        isText(all(x), before);
    }

    private static void promise06Book_allButTheBookStays() {
        CourtMoorhens x = withAll();
        is(Check.book(x, "0 1;2 1;"), 2);
        is(x.told(4) * 1000 + x.told(8) * 100 + x.told(9) * 10 + x.told(10), 2121);
        is(x.count(0) * 10 + x.count(2), 12);
        is(x.bird(0, 2), 3);
    }

    private static void promise06Book_aNewOneStandsForTheOld() {
        CourtMoorhens x = court("say 5 1 1;say 50 1 1;bird 5 1;");
        is(Check.book(x, "0 1;1 1;"), 2);
        is(x.fits(0), 9);
        is(Check.book(x, "0 0;"), 1);
        is(x.told(9), 1);
        is(x.fits(0), 1);
        is(x.look(0), 1);
        is(Check.book(x, "1 1;"), 1);
        is(x.fits(0), 10);
        is(Check.book(x, "1 0;"), 1);
        is(x.fits(0), 0);
    }

    private static void promise07Fault_noneAheadOfAnyText() {
        is(new CourtMoorhens().fault(), -1);
    }

    private static void promise07Fault_is0AtTheFirstByte() {
        courtFault("x", 1, 0);
        lawFault("", 1, 0);
        workFault(SMALL, "x", 1, 0);
        bookFault(SMALL, "9 1;", 2, 0);
    }

    private static void promise07Fault_isOfTheLatestTextWhicheverItIs() {
        CourtMoorhens x = court(SMALL);
        is(Check.court(x, "   x"), -9);
        is(x.fault(), 3);
        is(Check.law(x, "1+1000"), -8);
        is(x.fault(), 2);
        is(Check.work(x, "note x"), -9);
        is(x.fault(), 5);
        is(Check.book(x, "1 x"), -9);
        is(x.fault(), 2);
        is(Check.court(x, times(4, "bird 1 1;") + "bird"), -7);
        is(x.fault(), 36);
    }

    private static void promise07Fault_noneBehindATextWithout() {
        CourtMoorhens x = court(SMALL);
        String[] good = {"0 1;", "minute;", "7", SMALL};
        for (int kind = 0; kind < 4; kind++) {
            Check.law(x, "x");
            is(x.fault(), 0);
            int answer = kind == 0 ? Check.book(x, good[0]) : kind == 1 ? Check.work(x, good[1])
                    : kind == 2 ? Check.law(x, good[2]) : Check.court(x, good[3]);
            is(answer < 0 ? 1 : 0, 0);
            is(x.fault(), -1);
        }
    }

    private static void promise07Fault_staysBehindOtherCallsAndExceptions() {
        CourtMoorhens x = withAll();
        Check.law(x, "12+x");
        is(x.fault(), 3);
        x.feed(0, 0, 0, 0, 0);
        isArgument(() -> x.court(21));
        isArgument(() -> x.law(-1));
        isArgument(() -> x.work(151));
        isArgument(() -> x.book(61));
        x.undo();
        x.image();
        x.restore();
        isMissing(() -> x.saying(9, 0));
        is(x.fault(), 3);
    }

    public static void main(String[] args) throws IllegalAccessException {
        run(TextEdgeTest.class);
    }
}
