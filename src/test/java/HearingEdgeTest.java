/** The edges of the hearing: MINUTE, BIRDS, STEPS, what COUNTS, is HEARD and CONCLUDED, and promises 8 to 16 and 26 to 38. */
public final class HearingEdgeTest extends Edges {
    /** BIRD 0 is ON at 0 and 1, BIRD 1 at 3 and 4; SAYING 0 alone does not COUNT. */
    private static final String SMALL = "say 0 1 1;say 2 0 4;say 5 1 2;bird 0 2;bird 3 2;counsel 9 2;counsel 1 0;";
    private static final String NINE = times(9, "say 1 1 1;");
    /** STEPS of which 196 are begun, and 195 done. */
    private static final String BEGIN_196 = "again 39[minute;minute;minute;minute;minute;];";

    /** A SAYING that is put off to this MINUTE, 99 to 400. */
    private static CourtMoorhens saidAt(int minute) {
        CourtMoorhens x = court("say 99 1 7;bird 99 1;counsel 0 9;");
        Check.work(x, "again " + (minute - 99) / 9 + "[put 0 0 9;];");
        if ((minute - 99) % 9 > 0) {
            Check.work(x, "put 0 0 " + (minute - 99) % 9 + ";");
        }
        is(x.saying(0, 0), minute);
        return x;
    }

    /** The WORK does no STEP, one is REFUSED, and nothing is changed. */
    private static void refused(CourtMoorhens x, String work) {
        String before = state(x);
        is(Check.work(x, work), 0);
        is(x.told(10), 1);
        isText(state(x), before);
    }

    private static void done(CourtMoorhens x, String work) {
        is(Check.work(x, work), 1);
        is(x.told(10), 0);
    }

    // ---- It is MINUTE 0 at first

    private static void termFirst_isMinute0() {
        is(court(SMALL).told(4), 0);
    }

    private static void termFirst_allIsAsTold() {
        CourtMoorhens x = court(SMALL);
        is(x.saying(2, 0), 5);
        is(x.bird(1, 0), 3);
        is(x.counsel(0, 0), 9);
    }

    private static void termFirst_noBirdWasLed() {
        CourtMoorhens x = court(SMALL);
        is(x.bird(0, 3) + x.bird(1, 3), 0);
    }

    private static void termFirst_nothingIsNoted() {
        CourtMoorhens x = court(SMALL);
        is(x.told(8), 0);
        is(x.saying(0, 4) + x.saying(1, 4) + x.saying(2, 4), 0);
    }

    private static void termOn_fromItsFirstMinuteToItsLast() {
        CourtMoorhens x = court("bird 5 3;");
        is(x.at(4, 0), 0);
        is(x.at(5, 0), 1);
        is(x.at(7, 0), 1);
        is(x.at(8, 0), 0);
    }

    private static void termOn_forOneMinuteByTheLeastWalk() {
        CourtMoorhens x = court("bird 5 20;");
        Check.law(x, "0");
        is(x.at(4, 0) + x.at(6, 0), 0);
        is(x.at(5, 0), 1);
    }

    private static void termOn_for40MinutesByTheGreatestWalk() {
        CourtMoorhens x = court("bird 99 1;");
        Check.law(x, "999");
        is(x.at(98, 0) + x.at(139, 0), 0);
        is(x.at(99, 0) + x.at(138, 0), 2);
    }

    private static void termOn_fromMinute0() {
        CourtMoorhens x = court("bird 0 2;");
        is(x.at(0, 0), 1);
        is(x.told(11), 1);
    }

    private static void termOn_allWalksAsAllIsNow() {
        CourtMoorhens x = court("say 0 1 1;say 9 1 1;bird 0 1;");
        Check.law(x, "1 + 9 * notes");
        is(x.at(9, 0), 0);
        Check.work(x, "note 0;");
        is(x.at(9, 0), 1);
        is(x.saying(1, 3), 0);
        // The MINUTE that is asked of is ahead, and then behind, all the same.
        pass(x, 50);
        is(x.at(9, 0), 1);
        is(x.at(10, 0), 0);
    }

    private static void termCounts_ifNoBirdIsOnAtItsMinute() {
        CourtMoorhens x = court("say 4 1 1;say 5 1 1;say 7 1 1;say 8 1 1;bird 5 3;");
        is(x.told(5), 9);
    }

    private static void termCounts_notByAnyOfTheFourBirds() {
        CourtMoorhens x = court("say 1 0 1;say 2 0 1;say 3 0 1;say 4 0 1;say 5 0 1;bird 1 1;bird 2 1;bird 3 1;bird 4 1;");
        is(x.told(5), 16);
    }

    private static void termCounts_whetherItIsSaidByNowOrNot() {
        CourtMoorhens x = court("say 99 1 1;say 98 1 1;bird 99 1;");
        is(x.told(5), 2);
    }

    private static void termSteps_areDoneInOrder() {
        CourtMoorhens x = court("say 1 1 1;bird 1 1;");
        is(Check.work(x, "note 0;minute;note 0;minute;"), 3);
        is(x.told(10), 1);
        is(x.told(8), 1);
        CourtMoorhens y = court("bird 5 1;counsel 3 0;");
        is(Check.work(y, "lead 0 0 2;call 0 0;lead 0 0 1;"), 2);
        is(y.bird(0, 0), 0);
        CourtMoorhens z = court("bird 5 1;counsel 3 0;");
        is(Check.work(z, "call 0 0;lead 0 0 2;lead 0 0 1;"), 2);
        is(z.bird(0, 0), 2);
    }

    private static void termSteps_goOnBehindOneThatIsRefused() {
        CourtMoorhens x = court(SMALL);
        is(Check.work(x, "note 1;minute;call 0 0;minute;"), 2);
        is(x.told(10), 2);
        is(x.told(4), 2);
    }

    // ---- 200 STEPS at most are begun by one WORK

    private static void termSteps_the200thIsBegunThe201stIsNot() {
        CourtMoorhens x = new CourtMoorhens();
        is(Check.work(x, BEGIN_196 + "minute;minute;minute;"), 198);
        CourtMoorhens y = new CourtMoorhens();
        is(Check.work(y, BEGIN_196 + "minute;minute;minute;minute;"), 199);
        CourtMoorhens z = new CourtMoorhens();
        is(Check.work(z, BEGIN_196 + "minute;minute;minute;minute;minute;minute;"), 199);
        is(z.told(10), 0);
        is(z.told(4), 199);
    }

    private static void termSteps_anAgainIsBegunToo() {
        CourtMoorhens x = new CourtMoorhens();
        is(Check.work(x, BEGIN_196 + "minute;minute;again 9[minute;];minute;"), 198);
        CourtMoorhens y = new CourtMoorhens();
        is(Check.work(y, BEGIN_196 + "minute;minute;minute;again 9[minute;];minute;"), 198);
        CourtMoorhens z = new CourtMoorhens();
        is(Check.work(z, BEGIN_196 + "minute;minute;minute;minute;again 9[minute;];minute;"), 199);
    }

    private static void termSteps_anAgainIsBegunEachTimeItIsComeTo() {
        CourtMoorhens x = new CourtMoorhens();
        // 1 and 40 times 2, and once more 1 and 40 times 2, 38 are left: of these one is the again.
        is(Check.work(x, "again 40[again 1[minute;];];again 40[again 1[minute;];];again 40[minute;];"), 117);
        is(Check.work(new CourtMoorhens(), times(6, "again 40[") + "minute;" + times(6, "];")), 190);
    }

    private static void termSteps_anAgainOfNoTimesIsBegunToo() {
        CourtMoorhens x = new CourtMoorhens();
        is(Check.work(x, "again 40[again 0[minute;];again 0[];again 40[];again 0[];];again 40[minute;];"), 38);
    }

    private static void termSteps_refusedOnesAreBegunToo() {
        CourtMoorhens x = court("say 0 0 1;");
        is(Check.work(x, "again 40[note 0;note 0;note 0;note 0;];again 40[minute;];"), 38);
        is(x.told(10), 160);
    }

    private static void termSteps_whatIsLeftOutIsNeitherDoneNorRefused() {
        CourtMoorhens x = court("say 0 0 1;");
        is(Check.work(x, "again 40[note 0;note 0;note 0;note 0;note 0;];"), 0);
        is(x.told(10), 199);
        is(Check.work(x, "again 40[minute;note 0;note 0;note 0;note 0;note 0;];note 0;"), 34);
        is(x.told(10), 165);
    }

    private static void termSteps_theNextWorkBegins200Anew() {
        CourtMoorhens x = new CourtMoorhens();
        is(Check.work(x, BEGIN_196 + "minute;minute;minute;minute;minute;"), 199);
        is(Check.work(x, BEGIN_196 + "minute;minute;minute;minute;minute;"), 199);
        is(x.told(4), 398);
    }

    // ---- call

    private static void termCall_givesACrumbAndTheBirdBeginsNow() {
        CourtMoorhens x = behind("bird 9 2;bird 8 3;counsel 5 0;counsel 6 0;", "minute;minute;call 1 0;");
        is(x.told(10), 0);
        is(x.bird(0, 0), 2);
        is(x.bird(1, 0), 8);
        is(x.counsel(0, 0), 5);
        is(x.counsel(1, 0), 5);
        is(x.bird(0, 3), 0);
    }

    private static void termCall_refusedIfCounselHasNone() {
        refused(court("bird 9 2;counsel 0 9;counsel 9 9;"), "call 0 0;");
        CourtMoorhens x = court("bird 9 2;bird 9 2;counsel 1 0;");
        done(x, "call 0 0;");
        is(x.counsel(0, 0), 0);
        refused(x, "call 0 1;");
    }

    private static void termCall_refusedIfItBeginsAtThisMinute() {
        refused(court("bird 0 2;counsel 9 0;"), "call 0 0;");
        CourtMoorhens x = behind("bird 7 2;counsel 9 0;", "again 7[minute;];");
        refused(x, "call 0 0;");
    }

    private static void termCall_doneIfItBeginsAtTheNext() {
        CourtMoorhens x = behind("bird 7 2;counsel 9 0;", "again 6[minute;];");
        done(x, "call 0 0;");
        is(x.bird(0, 0), 6);
    }

    private static void termCall_refusedIfItBeganAhead() {
        CourtMoorhens x = behind("bird 7 2;counsel 9 0;", "again 8[minute;];");
        refused(x, "call 0 0;");
        pass(x, 30);
        refused(x, "call 0 0;");
    }

    private static void termCall_leavesByHowManyItWasLed() {
        CourtMoorhens x = behind("bird 7 2;counsel 9 0;", "lead 0 0 4;call 0 0;");
        is(x.bird(0, 0), 0);
        is(x.bird(0, 3), 4);
        is(x.counsel(0, 0), 4);
    }

    // ---- lead

    private static void termLead_givesNCrumbsAndItBeginsNLater() {
        CourtMoorhens x = behind("bird 7 2;bird 8 3;counsel 9 0;counsel 9 0;", "lead 1 1 4;");
        is(x.bird(1, 0), 12);
        is(x.bird(1, 3), 4);
        is(x.counsel(1, 0), 5);
        is(x.counsel(0, 0), 9);
        is(x.bird(0, 0), 7);
        is(x.bird(0, 3), 0);
    }

    private static void termLead_byNMinutesMore() {
        CourtMoorhens x = behind("bird 7 2;counsel 9 0;counsel 9 0;", "lead 0 0 4;lead 1 0 3;", "minute;lead 0 0 1;");
        is(x.bird(0, 0), 15);
        is(x.bird(0, 3), 8);
    }

    private static void termLead_refusedIfCounselHasNotSoMany() {
        refused(court("bird 7 2;counsel 4 9;counsel 9 9;"), "lead 0 0 5;");
        refused(court("bird 7 2;counsel 0 9;"), "lead 0 0 1;");
        CourtMoorhens x = court("bird 7 2;counsel 4 0;");
        done(x, "lead 0 0 4;");
        is(x.counsel(0, 0), 0);
        refused(x, "lead 0 0 1;");
    }

    private static void termLead_refusedIfItBeganAhead() {
        refused(behind("bird 0 9;counsel 9 9;", "minute;"), "lead 0 0 1;");
        refused(behind("bird 7 2;counsel 9 9;", "again 8[minute;];"), "lead 0 0 1;");
    }

    private static void termLead_doneIfItBeginsAtThisMinute() {
        done(court("bird 0 9;counsel 9 9;"), "lead 0 0 1;");
        CourtMoorhens x = behind("bird 7 2;counsel 9 9;", "again 7[minute;];");
        done(x, "lead 0 0 9;");
        is(x.bird(0, 0), 16);
    }

    private static void termLead_byAllTheCrumbsThatCanBe() {
        // MINUTE 400, the most, is never come to: 99 and 160 are 259.
        CourtMoorhens x = court("bird 99 1;" + times(4, "counsel 40 0;"));
        for (int counsel = 0; counsel < 4; counsel++) {
            is(Check.work(x, "again 4[lead " + counsel + " 0 9;];lead " + counsel + " 0 4;"), 5);
        }
        is(x.bird(0, 0), 259);
        is(x.bird(0, 3), 160);
        is(x.purse(15), 0);
        is(x.told(10), 0);
    }

    // ---- put

    private static void termPut_saidNLater() {
        CourtMoorhens x = behind("say 4 1 1;say 5 1 1;counsel 9 0;counsel 0 3;", "put 1 0 3;put 1 0 2;");
        is(x.saying(0, 0), 9);
        is(x.saying(1, 0), 5);
        is(x.counsel(0, 0) * 10 + x.counsel(1, 0), 90);
    }

    private static void termPut_refusedIfNIsMoreThanSly() {
        CourtMoorhens x = court("say 4 1 1;counsel 9 3;counsel 0 9;");
        refused(x, "put 0 0 4;");
        done(x, "put 0 0 3;");
        done(x, "put 1 0 9;");
        is(x.saying(0, 0), 16);
    }

    private static void termPut_refusedByCounselOfSly0() {
        refused(court("say 4 1 1;counsel 40 0;"), "put 0 0 1;");
    }

    private static void termPut_refusedIfItWasSaidAhead() {
        refused(behind("say 0 1 1;counsel 40 9;", "minute;"), "put 0 0 1;");
        refused(behind("say 6 1 1;counsel 40 9;", "again 7[minute;];"), "put 0 0 9;");
    }

    private static void termPut_doneIfItIsSaidAtThisMinute() {
        done(court("say 0 1 1;counsel 0 9;"), "put 0 0 1;");
        done(behind("say 6 1 1;counsel 0 9;", "again 6[minute;];"), "put 0 0 9;");
    }

    private static void termPut_400AtMost() {
        CourtMoorhens x = saidAt(391);
        done(x, "put 0 0 9;");
        is(x.saying(0, 0), 400);
        CourtMoorhens y = saidAt(392);
        done(y, "put 0 0 9;");
        is(y.saying(0, 0), 400);
        CourtMoorhens z = saidAt(399);
        done(z, "put 0 0 9;");
        is(z.saying(0, 0), 400);
    }

    private static void termPut_isDoneAt400Too() {
        CourtMoorhens x = saidAt(400);
        done(x, "put 0 0 9;");
        is(x.saying(0, 0), 400);
        pass(x, 400);
        done(x, "put 0 0 1;");
        is(x.saying(0, 0), 400);
    }

    // ---- note

    private static void termNote_isNotedOrIfItIsNotAnyMore() {
        CourtMoorhens x = court("say 0 1 1;say 0 1 1;bird 0 1;");
        done(x, "note 1;");
        is(x.told(8), 2);
        done(x, "note 1;");
        is(x.told(8), 0);
        done(x, "note 0;");
        is(x.told(8), 1);
    }

    private static void termNote_refusedIfItIsSaidBehindThisMinute() {
        CourtMoorhens x = court("say 1 1 1;bird 0 2;");
        refused(x, "note 0;");
        Check.work(x, "minute;");
        done(x, "note 0;");
    }

    private static void termNote_doneIfItWasSaidAhead() {
        done(behind("say 1 1 1;bird 0 2;", "again 40[minute;];"), "note 0;");
    }

    private static void termNote_refusedIfItCounts() {
        refused(court("say 0 1 1;bird 1 2;"), "note 0;");
        refused(behind("say 3 1 1;bird 1 2;", "again 9[minute;];"), "note 0;");
    }

    private static void termNote_whatIsNotedIsStruckOutThoughItIsSaidBehind() {
        CourtMoorhens x = behind("say 0 1 1;bird 0 4;counsel 0 9;", "note 0;put 0 0 2;");
        is(x.saying(0, 0) * 10 + x.told(8), 21);
        is(x.saying(0, 3), 0);
        done(x, "note 0;");
        refused(x, "note 0;");
    }

    private static void termNote_whatIsNotedIsStruckOutThoughItCounts() {
        CourtMoorhens x = behind("say 0 1 1;bird 0 1;counsel 9 9;", "note 0;lead 0 0 1;");
        is(x.saying(0, 3), 1);
        is(x.told(8), 1);
        done(x, "note 0;");
        refused(x, "note 0;");
    }

    private static void termNote_allNine() {
        CourtMoorhens x = court(times(9, "say 0 1 1;") + "bird 0 1;");
        Check.law(x, "1 + notes");
        is(Check.work(x, "note 0;note 1;note 2;note 3;note 4;note 5;note 6;note 7;note 8;"), 9);
        is(x.told(8), 511);
        is(x.bird(0, 2), 10);
    }

    // ---- minute

    private static void termMinute_isOneMore() {
        CourtMoorhens x = new CourtMoorhens();
        done(x, "minute;");
        is(x.told(4), 1);
    }

    private static void termMinute_refusedFrom400On() {
        CourtMoorhens x = new CourtMoorhens();
        pass(x, 399);
        is(x.told(4), 399);
        done(x, "minute;");
        is(x.told(4), 400);
        refused(x, "minute;");
        is(Check.work(x, "again 40[minute;];"), 0);
        is(x.told(10), 40);
        is(x.told(4), 400);
    }

    // ---- HEARD, CONCLUDED, LEAN

    private static void termHeard_atThisMinuteOrAheadOfIt() {
        CourtMoorhens x = court("say 3 1 1;say 4 1 1;say 5 1 1;");
        pass(x, 4);
        is(x.told(6), 3);
    }

    private static void termHeard_onlyWhatCounts() {
        CourtMoorhens x = court("say 3 1 1;say 4 1 1;say 5 1 1;bird 4 1;");
        pass(x, 9);
        is(x.told(6), 5);
    }

    private static void termHeard_noneAreBefore() {
        is(court("say 1 1 1;").told(6), 0);
        is(court("say 0 1 1;").told(6), 1);
    }

    private static void termConcluded_whatIsHeardWithoutRules() {
        is(court("say 0 1 1;say 1 1 1;").told(7), 1);
    }

    private static void termConcluded_whatFollowsThoughItIsNotSaidOrDoesNotCount() {
        CourtMoorhens x = court("say 0 1 1;say 99 1 1;say 1 1 1;so 0 0 1;so 0 0 2;bird 1 1;");
        is(x.told(6), 1);
        is(x.told(7), 7);
    }

    private static void termConcluded_whatFollowsFromWhatFollowed() {
        // Told from its end, so that each RULE is of use behind the one that stands behind it.
        CourtMoorhens x = court("say 0 1 1;" + times(8, "say 9 1 1;")
                + "so 7 0 8;so 6 7 8;so 6 6 7;so 5 5 6;so 4 4 5;so 3 3 4;so 2 2 3;so 1 1 2;so 0 0 1;");
        is(x.told(7), 511);
    }

    private static void termConcluded_notByOneOfTwo() {
        is(court("say 0 1 1;say 9 1 1;say 9 1 1;so 0 1 2;so 1 0 2;").told(7), 1);
    }

    private static void termLean_ofNoneIs0() {
        is(new CourtMoorhens().lean(), 0);
        is(court("say 1 1 60;").lean(), 0);
    }

    private static void termLean_ofSide1LessThoseOfSide0() {
        is(court("say 0 1 60;say 0 0 1;").lean(), 59);
        is(court("say 0 0 60;say 0 1 1;").lean(), -59);
        is(court("say 0 0 60;say 0 1 60;").lean(), 0);
    }

    private static void termLean_theMostAndTheLeast() {
        is(court(times(9, "say 0 1 60;")).lean(), 540);
        is(court(times(9, "say 0 0 60;")).lean(), -540);
    }

    private static void termLean_ofAllThatAreConcludedNotTheHeardAlone() {
        is(court("say 0 1 3;say 9 1 20;so 0 0 1;").lean(), 23);
    }

    // ---- Promise 8: undo

    private static void promise08Undo_less1IfThereIsNone() {
        CourtMoorhens x = court(SMALL);
        String before = all(x);
        is(x.undo(), -1);
        isText(all(x), before);
        Check.work(x, "minute;");
        is(x.undo(), 0);
        is(x.undo(), -1);
        isText(all(x), before);
    }

    private static void promise08Undo_allThatWorkChangesIsAsItWas() {
        CourtMoorhens x = court("say 0 1 1;say 2 0 4;bird 0 2;bird 3 2;counsel 9 2;counsel 3 0;");
        String first = all(x);
        Check.work(x, "note 0;minute;lead 0 1 2;put 0 1 2;lead 1 1 1;");
        String second = state(x);
        Check.work(x, "minute;call 0 1;note 0;put 0 1 1;");
        is(x.told(10), 0);
        is(x.undo(), 1);
        isText(state(x), second);
        is(x.undo(), 0);
        isText(all(x), first);
    }

    private static void promise08Undo_aWorkOfNoSteps() {
        CourtMoorhens x = behind(SMALL, "minute;", "");
        is(x.undo(), 1);
        is(x.told(4), 1);
        is(x.undo(), 0);
        is(x.told(4), 0);
    }

    private static void promise08Undo_aWorkWithAllStepsRefused() {
        CourtMoorhens x = behind(SMALL, "minute;", "call 0 0;note 1;");
        is(x.told(10), 2);
        is(x.undo(), 1);
        is(x.told(4), 1);
    }

    private static void promise08Undo_notAWorkWithAFault() {
        CourtMoorhens x = behind(SMALL, "minute;", "minute;x", "minute;note 9;");
        is(x.undo(), 0);
        is(x.told(4), 0);
    }

    private static void promise08Undo_notAWorkThatWasThrownOut() {
        CourtMoorhens x = behind(SMALL, "minute;");
        isArgument(() -> x.work(1));
        is(x.undo(), 0);
        is(x.undo(), -1);
    }

    private static void promise08Undo_all16() {
        CourtMoorhens x = new CourtMoorhens();
        for (int i = 0; i < 16; i++) {
            is(Check.work(x, "minute;"), 1);
        }
        is(Check.work(x, "minute;"), -20);
        for (int i = 15; i >= 0; i--) {
            is(x.undo(), i);
            is(x.told(4), i);
        }
        is(x.undo(), -1);
    }

    private static void promise08Undo_ofAFullCourt() {
        StringBuilder text = new StringBuilder();
        for (int saying = 0; saying < 9; saying++) {
            text.append("say ").append(10 + saying).append(" 1 1;");
        }
        for (int i = 0; i < 4; i++) {
            text.append("bird ").append(60 + i).append(" 1;counsel ").append(30 + i).append(' ').append(6 + i).append(';');
        }
        CourtMoorhens x = court(text.toString());
        String[] states = new String[4];
        for (int work = 0; work < 4; work++) {
            states[work] = state(x);
            is(Check.work(x, "minute;put 3 0 1;put 3 8 " + (work + 1) + ";lead 0 3 1;lead 3 0 2;lead 3 3 3;lead 1 1 1;lead 2 2 1;"), 8);
        }
        x.image();
        String last = state(x);
        for (int work = 3; work >= 0; work--) {
            is(x.undo(), work);
            isText(state(x), states[work]);
        }
        Check.work(x, "again 9[minute;lead 3 3 1;];");
        x.restore();
        isText(state(x), last);
        for (int work = 3; work >= 0; work--) {
            is(x.undo(), work);
            isText(state(x), states[work]);
        }
    }

    private static void promise08Undo_leavesLawAndBookAndImages() {
        CourtMoorhens x = behind(SMALL, "minute;");
        Check.law(x, "9");
        Check.book(x, "1 1;");
        x.image();
        x.undo();
        is(x.bird(0, 2), 9);
        is(x.told(9), 1);
        is(x.count(0), 1);
    }

    // ---- Promise 9: told

    private static void promise09Told_whatIs0To11() {
        CourtMoorhens x = court(SMALL);
        for (int what : new int[] {-1, 12, MIN, MAX}) {
            isArgument(() -> x.told(what));
        }
        int[] due = {3, 0, 2, 2, 0, 6, 0, 0, 0, 0, 0, 1};
        for (int what = 0; what <= 11; what++) {
            is(x.told(what), due[what]);
        }
    }

    private static void promise09Told_theMostOfEach() {
        CourtMoorhens x = court(NINE + times(12, "so 0 0 0;") + times(4, "bird 1 2;counsel 1 1;"));
        Check.law(x, "1");
        Check.book(x, "8 1;7 1;6 1;5 1;4 1;3 1;2 1;1 1;0 1;");
        Check.work(x, "minute;note 0;note 1;note 2;note 3;note 4;note 5;note 6;note 7;note 8;");
        int[] due = {9, 12, 4, 4, 1, 0, 0, 0, 511, 9, 0, 15};
        for (int what = 0; what <= 11; what++) {
            is(x.told(what), due[what]);
        }
        CourtMoorhens y = court(NINE);
        pass(y, 1);
        is(y.told(5) + y.told(6) + y.told(7), 3 * 511);
    }

    private static CourtMoorhens withRefused() {
        CourtMoorhens x = behind(SMALL, "note 1;note 2;minute;");
        is(x.told(10), 2);
        return x;
    }

    private static void promise09Told_refusedIs0AheadOfAnyWork() {
        is(new CourtMoorhens().told(10), 0);
        is(court(SMALL).told(10), 0);
    }

    private static void promise09Told_refusedIs0BehindCourtWithoutAFault() {
        CourtMoorhens x = withRefused();
        Check.court(x, SMALL);
        is(x.told(10), 0);
        CourtMoorhens y = withRefused();
        is(y.court(0), 0);
        is(y.told(10), 0);
    }

    private static void promise09Told_refusedStaysBehindCourtWithAFault() {
        CourtMoorhens x = withRefused();
        Check.court(x, "x");
        is(x.told(10), 2);
    }

    private static void promise09Told_refusedIs0BehindUndo() {
        CourtMoorhens x = withRefused();
        x.undo();
        is(x.told(10), 0);
        CourtMoorhens y = behind(SMALL, "note 1;note 2;", "note 1;");
        is(y.told(10), 1);
        y.undo();
        is(y.told(10), 0);
    }

    private static void promise09Told_refusedIs0BehindRestore() {
        CourtMoorhens x = withRefused();
        x.image();
        is(x.told(10), 2);
        x.restore();
        is(x.told(10), 0);
    }

    private static void promise09Told_refusedIsOfTheLatestWork() {
        CourtMoorhens x = withRefused();
        Check.work(x, "");
        is(x.told(10), 0);
        Check.work(x, "note 1;");
        is(x.told(10), 1);
    }

    private static void promise09Told_refusedStaysBehindATextThatIsNotDone() {
        CourtMoorhens x = withRefused();
        Check.work(x, "note 9;");
        is(x.told(10), 2);
        isArgument(() -> x.work(1));
        Check.law(x, "1");
        Check.book(x, "0 1;");
        is(x.told(10), 2);
        CourtMoorhens y = court(SMALL);
        for (int i = 0; i < 16; i++) {
            Check.work(y, "note 1;");
        }
        is(Check.work(y, ""), -20);
        is(y.told(10), 1);
    }

    private static void promise09Told_onAtThisMinute() {
        CourtMoorhens x = court("bird 2 2;bird 3 2;");
        int[] due = {0, 0, 1, 3, 2, 0};
        for (int minute = 0; minute < 6; minute++) {
            is(x.told(11), due[minute]);
            Check.work(x, "minute;");
        }
    }

    private static void promise10Lean_now() {
        CourtMoorhens x = court("say 0 1 9;say 1 0 20;");
        is(x.lean(), 9);
        Check.work(x, "minute;");
        is(x.lean(), -11);
    }

    // ---- Promises 11 to 16

    private static void promise11Saying_noSuchSaying() {
        CourtMoorhens x = court(SMALL);
        for (int saying : new int[] {-1, 3, 9, MIN, MAX}) {
            isMissing(() -> x.saying(saying, 0));
        }
        isMissing(() -> new CourtMoorhens().saying(0, 0));
        is(court(NINE).saying(8, 0), 1);
        isMissing(() -> court(NINE).saying(9, 0));
    }

    private static void promise11Saying_anotherWhat() {
        CourtMoorhens x = court(SMALL);
        for (int what : new int[] {-1, 6, MIN, MAX}) {
            isArgument(() -> x.saying(2, what));
        }
    }

    private static void promise11Saying_theMissingOneStandsAhead() {
        CourtMoorhens x = court(SMALL);
        isMissing(() -> x.saying(3, 6));
        isMissing(() -> x.saying(-1, -1));
    }

    private static void promise11Saying_itsMinuteNow() {
        CourtMoorhens x = behind("say 0 1 1;counsel 1 9;", "put 0 0 9;");
        is(x.saying(0, 0), 9);
    }

    private static void promise11Saying_1IfItCountsAndIfItIsNotedElse0() {
        CourtMoorhens x = behind("say 0 1 1;say 0 1 1;say 1 1 1;bird 0 1;", "note 1;");
        is(x.saying(0, 3) * 10 + x.saying(0, 4), 0);
        is(x.saying(1, 3) * 10 + x.saying(1, 4), 1);
        is(x.saying(2, 3) * 10 + x.saying(2, 4), 10);
    }

    private static void promise11Saying_birdsAtItsMinute() {
        CourtMoorhens x = court("say 5 1 1;bird 4 1;bird 5 1;bird 3 3;bird 6 1;");
        is(x.saying(0, 5), 6);
        is(x.saying(0, 3), 0);
    }

    private static void promise12Bird_noSuchBird() {
        CourtMoorhens x = court(SMALL);
        for (int bird : new int[] {-1, 2, 4, MIN, MAX}) {
            isMissing(() -> x.bird(bird, 0));
        }
        isMissing(() -> new CourtMoorhens().bird(0, 0));
    }

    private static void promise12Bird_anotherWhat() {
        CourtMoorhens x = court(SMALL);
        for (int what : new int[] {-1, 5, MIN, MAX}) {
            isArgument(() -> x.bird(1, what));
        }
    }

    private static void promise12Bird_theMissingOneStandsAhead() {
        CourtMoorhens x = court(SMALL);
        isMissing(() -> x.bird(2, 5));
        isMissing(() -> x.bird(-1, -1));
    }

    private static void promise12Bird_theLastMinuteAtWhichItIsOn() {
        CourtMoorhens x = court("bird 99 1;");
        is(x.bird(0, 4), 99);
        Check.law(x, "999");
        is(x.bird(0, 4), 138);
    }

    private static void promise13Counsel_noSuchCounsel() {
        CourtMoorhens x = court(SMALL);
        for (int counsel : new int[] {-1, 2, 4, MIN, MAX}) {
            isMissing(() -> x.counsel(counsel, 0));
        }
        isMissing(() -> new CourtMoorhens().counsel(0, 0));
    }

    private static void promise13Counsel_anotherWhat() {
        CourtMoorhens x = court(SMALL);
        for (int what : new int[] {-1, 2, MIN, MAX}) {
            isArgument(() -> x.counsel(1, what));
        }
    }

    private static void promise13Counsel_theMissingOneStandsAhead() {
        CourtMoorhens x = court(SMALL);
        isMissing(() -> x.counsel(2, 2));
        isMissing(() -> x.counsel(-1, -1));
    }

    private static void wouldRefuses(int place, int value) {
        int[] n = {5, 5, 5, 5, 5, 1};
        n[place] = value;
        isArgument(() -> new CourtMoorhens().would(n[0], n[1], n[2], n[3], n[4], n[5]));
    }

    private static void wouldTakes(int place, int value, String law, int due) {
        int[] n = {5, 5, 5, 5, 5, 1};
        n[place] = value;
        CourtMoorhens x = new CourtMoorhens();
        Check.law(x, law);
        is(x.would(n[0], n[1], n[2], n[3], n[4], n[5]), due);
    }

    private static void promise14Would_steps1To20() {
        wouldTakes(0, 1, "steps", 1);
        wouldTakes(0, 20, "steps", 20);
        for (int wrong : new int[] {0, 21, -1, MIN, MAX}) {
            wouldRefuses(0, wrong);
        }
    }

    private static void promise14Would_begin0To400() {
        wouldTakes(1, 0, "begin+7", 7);
        wouldTakes(1, 400, "begin-393", 7);
        for (int wrong : new int[] {-1, 401, MIN, MAX}) {
            wouldRefuses(1, wrong);
        }
    }

    private static void promise14Would_crumbs0To160() {
        wouldTakes(2, 0, "crumbs+7", 7);
        wouldTakes(2, 160, "crumbs-153", 7);
        for (int wrong : new int[] {-1, 161, MIN, MAX}) {
            wouldRefuses(2, wrong);
        }
    }

    private static void promise14Would_led0To999() {
        wouldTakes(3, 0, "led+7", 7);
        wouldTakes(3, 999, "led-992", 7);
        for (int wrong : new int[] {-1, 1000, MIN, MAX}) {
            wouldRefuses(3, wrong);
        }
    }

    private static void promise14Would_notes0To9() {
        wouldTakes(4, 0, "notes+7", 7);
        wouldTakes(4, 9, "notes", 9);
        for (int wrong : new int[] {-1, 10, MIN, MAX}) {
            wouldRefuses(4, wrong);
        }
    }

    private static void promise14Would_bird0To3WhetherThereIsOneOrNot() {
        wouldTakes(5, 0, "bird+7", 7);
        wouldTakes(5, 3, "bird+7", 10);
        for (int wrong : new int[] {-1, 4, MIN, MAX}) {
            wouldRefuses(5, wrong);
        }
    }

    private static void promise14Would_is1To40() {
        wouldTakes(0, 5, "0-steps", 1);
        wouldTakes(0, 5, "steps*steps*steps", 40);
    }

    private static void promise15At_nIs0To499() {
        CourtMoorhens x = court(SMALL);
        is(x.at(0, 0), 1);
        is(x.at(499, 0), 0);
        is(x.at(499, 2), -2);
        for (int what = 0; what <= 2; what++) {
            int asked = what;
            for (int n : new int[] {-1, 500, MIN, MAX}) {
                isArgument(() -> x.at(n, asked));
            }
        }
    }

    private static void promise15At_anotherWhat() {
        for (int what : new int[] {-1, 3, MIN, MAX}) {
            isArgument(() -> court(SMALL).at(0, what));
        }
    }

    private static void promise15At_saidJustThen() {
        CourtMoorhens x = saidAt(400);
        is(x.at(399, 1), 0);
        is(x.at(400, 1), 1);
        is(x.at(401, 1), 0);
        is(court("say 0 1 1;").at(0, 1), 1);
    }

    private static void promise15At_leanAheadAndBehind() {
        CourtMoorhens x = court("say 1 1 5;say 2 0 9;bird 5 1;");
        for (int i = 0; i < 5; i++) {
            is(x.at(0, 2), 0);
            is(x.at(1, 2), 5);
            is(x.at(2, 2), -4);
            is(x.at(499, 2), -4);
            Check.work(x, "minute;");
        }
    }

    private static void promise15At_nothingStaysChanged() {
        CourtMoorhens x = court(SMALL);
        stays(x, () -> x.at(499, 2));
        stays(x, () -> x.at(500, 2));
    }

    private static void promise16Clear_fromThisOneOnTo499() {
        CourtMoorhens x = new CourtMoorhens();
        is(x.clear(), 500);
        pass(x, 400);
        is(x.clear(), 100);
    }

    private static void promise16Clear_thisMinuteToo() {
        CourtMoorhens x = court("bird 2 2;");
        int[] due = {498, 497, 496, 496, 496, 495};
        for (int minute = 0; minute < 6; minute++) {
            is(x.clear(), due[minute]);
            Check.work(x, "minute;");
        }
    }

    private static void promise16Clear_twoBirdsAtOneMinuteAreOne() {
        is(court("bird 2 2;bird 3 2;").clear(), 497);
    }

    // ---- Promises 26 to 38

    private static void promise26Loss_noneIfAllCount() {
        CourtMoorhens x = court("say 4 1 1;bird 5 1;");
        is(x.loss(0), -1);
        is(x.loss(1), -1);
        is(new CourtMoorhens().loss(0), -1);
        is(new CourtMoorhens().loss(1), -1);
    }

    private static void promise26Loss_ofAlikeOnesTheFirst() {
        CourtMoorhens x = court("say 9 1 60;say 5 1 7;say 5 0 9;say 5 1 9;say 5 1 8;bird 5 1;");
        is(x.loss(0), 2);
        is(x.loss(1), 9);
    }

    private static void promise26Loss_ofWeight0() {
        CourtMoorhens x = court("say 9 1 60;say 5 1 0;say 5 1 0;bird 5 1;");
        is(x.loss(0), 1);
        is(x.loss(1), 0);
    }

    private static void promise26Loss_alsoOfWhatIsSaidBehindThisMinute() {
        CourtMoorhens x = court("say 99 1 9;bird 99 1;");
        is(x.loss(0), 0);
    }

    private static void promise26Loss_anotherWhat() {
        for (int what : new int[] {-1, 2, MIN, MAX}) {
            isArgument(() -> court(SMALL).loss(what));
        }
    }

    private static void promise27Next_atThisMinuteToo() {
        CourtMoorhens x = court("say 2 1 1;say 0 1 1;");
        is(x.next(0), 1);
        is(x.next(1), 0);
        Check.work(x, "minute;");
        is(x.next(0), 0);
        is(x.next(1), 2);
    }

    private static void promise27Next_ofAlikeOnesTheFirst() {
        is(court("say 9 1 1;say 2 1 1;say 2 1 1;say 3 1 1;").next(0), 1);
    }

    private static void promise27Next_noneIfThereIsNone() {
        CourtMoorhens x = behind("say 0 1 1;", "minute;");
        is(x.next(0), -1);
        is(x.next(1), -1);
        is(new CourtMoorhens().next(0), -1);
        is(new CourtMoorhens().next(1), -1);
    }

    private static void promise27Next_at400() {
        CourtMoorhens x = saidAt(400);
        pass(x, 400);
        is(x.next(0), 0);
        is(x.next(1), 400);
    }

    private static void promise27Next_whetherItCountsOrNot() {
        is(court("say 9 1 1;say 2 1 1;bird 2 1;").next(0), 1);
    }

    private static void promise27Next_anotherWhat() {
        for (int what : new int[] {-1, 2, MIN, MAX}) {
            isArgument(() -> court(SMALL).next(what));
        }
    }

    private static void promise28Side_sideIs0Or1() {
        CourtMoorhens x = court(SMALL);
        is(x.side(0, 2), 4);
        is(x.side(1, 2), 3);
        for (int side : new int[] {-1, 2, MIN, MAX}) {
            isArgument(() -> x.side(side, 2));
        }
    }

    private static void promise28Side_anotherWhat() {
        for (int what : new int[] {-1, 3, MIN, MAX}) {
            isArgument(() -> court(SMALL).side(1, what));
        }
    }

    private static void promise28Side_heardNotConcluded() {
        CourtMoorhens x = court("say 0 1 3;say 9 1 20;so 0 0 1;");
        is(x.side(1, 0), 3);
        is(x.side(0, 0), 0);
    }

    private static void promise28Side_theMostOfAll() {
        CourtMoorhens x = court(times(9, "say 0 0 60;"));
        is(x.side(0, 0), 540);
        is(x.side(0, 1), 0);
        is(x.side(0, 2), 540);
        is(x.side(1, 2), 0);
        is(new CourtMoorhens().side(0, 2), 0);
    }

    private static void promise29Leaders_nIs1To9() {
        CourtMoorhens x = court("bird 5 1;counsel 9 0;counsel 1 0;counsel 8 0;counsel 0 0;");
        is(x.leaders(0, 1), 7);
        is(x.leaders(0, 8), 5);
        is(x.leaders(0, 9), 1);
        for (int n : new int[] {0, 10, -1, MIN, MAX}) {
            isArgument(() -> x.leaders(0, n));
        }
    }

    private static void promise29Leaders_noSuchBirdStandsAhead() {
        CourtMoorhens x = court("bird 5 1;counsel 9 0;");
        for (int bird : new int[] {-1, 1, MIN, MAX}) {
            isMissing(() -> x.leaders(bird, 1));
            isMissing(() -> x.leaders(bird, 10));
        }
    }

    private static void promise29Leaders_noneOfABirdThatBeganAhead() {
        CourtMoorhens x = behind("bird 5 1;counsel 9 0;", "again 5[minute;];");
        is(x.leaders(0, 9), 1);
        Check.work(x, "minute;");
        is(x.leaders(0, 1), 0);
    }

    private static void promise29Leaders_noneWithoutCounsel() {
        is(court("bird 5 1;").leaders(0, 1), 0);
    }

    private static void promise30Used_noneAndAll12() {
        is(new CourtMoorhens().used(), 0);
        is(court("say 1 1 1;so 0 0 0;").used(), 0);
        is(court("say 0 1 1;" + times(12, "so 0 0 0;")).used(), 4095);
    }

    private static void promise30Used_bothAreConcluded() {
        CourtMoorhens x = court("say 0 1 1;say 9 1 1;say 9 1 1;so 0 1 2;so 1 0 2;so 1 1 2;so 0 0 0;");
        is(x.used(), 8);
        CourtMoorhens y = court("say 0 1 1;say 9 1 1;say 9 1 1;so 0 0 1;so 1 0 2;so 2 2 2;");
        is(y.used(), 7);
    }

    private static void promise31Over_itsFirstMinuteAndItsLast() {
        CourtMoorhens x = court("say 4 1 1;say 5 1 1;say 7 1 1;say 8 1 1;bird 5 3;bird 4 1;");
        is(x.over(0), 6);
        is(x.over(1), 1);
    }

    private static void promise31Over_noSuchBird() {
        CourtMoorhens x = court(SMALL);
        for (int bird : new int[] {-1, 2, 4, MIN, MAX}) {
            isMissing(() -> x.over(bird));
        }
    }

    private static void promise31Over_noSayings() {
        is(court("bird 5 3;").over(0), 0);
    }

    private static void promise32Delay_0IfItCounts() {
        is(court("say 4 1 1;bird 5 3;").delay(0), 0);
        is(court("say 8 1 1;bird 5 3;").delay(0), 0);
    }

    private static void promise32Delay_9AtMost() {
        is(court("say 5 1 1;bird 5 9;").delay(0), 9);
        is(court("say 5 1 1;bird 5 10;").delay(0), -1);
        is(court("say 5 1 1;bird 4 10;").delay(0), 9);
    }

    private static void promise32Delay_byAllBirds() {
        is(court("say 5 1 1;bird 5 2;bird 7 1;bird 9 1;").delay(0), 3);
        is(court("say 5 1 1;bird 5 2;bird 7 1;bird 8 1;").delay(0), 4);
    }

    private static void promise32Delay_whoeverPutsItOff() {
        // No COUNSEL is there, and it was said.
        CourtMoorhens x = court("say 5 1 1;bird 5 2;");
        pass(x, 40);
        is(x.delay(0), 2);
    }

    private static void promise32Delay_at400NoBirdEverIs() {
        is(saidAt(400).delay(0), 0);
        is(saidAt(395).delay(0), 0);
    }

    private static void promise32Delay_noSuchSaying() {
        CourtMoorhens x = court(SMALL);
        for (int saying : new int[] {-1, 3, MIN, MAX}) {
            isMissing(() -> x.delay(saying));
        }
    }

    private static void promise33Point_noneIfNoneIsHeard() {
        CourtMoorhens x = court("say 0 0 9;say 1 1 9;say 0 1 8;bird 0 1;");
        for (int side = 0; side <= 1; side++) {
            is(x.point(side, 0), -1);
            is(x.point(side, 1), -1);
        }
        is(new CourtMoorhens().point(0, 0), -1);
        is(new CourtMoorhens().point(1, 1), -1);
    }

    private static void promise33Point_ofAlikeOnesTheFirst() {
        CourtMoorhens x = court("say 0 0 60;say 0 1 8;say 0 1 9;say 0 1 9;say 0 1 7;");
        is(x.point(1, 0), 2);
        is(x.point(1, 1), 9);
    }

    private static void promise33Point_ofWeight0() {
        CourtMoorhens x = court("say 0 0 60;say 0 1 0;say 0 1 0;");
        is(x.point(1, 0), 1);
        is(x.point(1, 1), 0);
    }

    private static void promise33Point_heardNotConcluded() {
        CourtMoorhens x = court("say 0 1 3;say 9 1 20;so 0 0 1;");
        is(x.point(1, 0), 0);
    }

    private static void promise33Point_sideIs0Or1() {
        for (int side : new int[] {-1, 2, MIN, MAX}) {
            isArgument(() -> court(SMALL).point(side, 0));
        }
    }

    private static void promise33Point_anotherWhat() {
        for (int what : new int[] {-1, 2, MIN, MAX}) {
            isArgument(() -> court(SMALL).point(1, what));
        }
    }

    private static void promise34Purse_noneAndAllFour() {
        CourtMoorhens x = court("counsel 40 0;counsel 40 0;counsel 40 0;counsel 39 0;");
        is(x.purse(0), 0);
        is(x.purse(8), 39);
        is(x.purse(15), 159);
        is(new CourtMoorhens().purse(0), 0);
    }

    private static void promise34Purse_bitsOfNoCounsel() {
        CourtMoorhens x = court(SMALL);
        for (int all : new int[] {-1, 4, 5, 16, MIN, MAX, MIN + 1}) {
            isArgument(() -> x.purse(all));
        }
        isArgument(() -> new CourtMoorhens().purse(1));
        isArgument(() -> court("counsel 1 1;counsel 1 1;counsel 1 1;counsel 1 1;").purse(16));
    }

    private static void promise35Pairs_togetherAtOneMinute() {
        is(court("bird 5 3;bird 8 3;").pairs(), 0);
        is(court("bird 5 4;bird 8 3;").pairs(), 1);
        is(court("bird 8 3;bird 5 3;").pairs(), 0);
        is(court("bird 8 3;bird 5 4;").pairs(), 1);
        is(court("bird 5 9;bird 7 1;").pairs(), 1);
    }

    private static void promise35Pairs_noneAndSix() {
        is(new CourtMoorhens().pairs(), 0);
        is(court("bird 5 3;").pairs(), 0);
        is(court(times(4, "bird 5 1;")).pairs(), 6);
    }

    private static void promise35Pairs_whateverTheMinuteIs() {
        CourtMoorhens x = court("bird 5 4;bird 8 3;");
        pass(x, 400);
        is(x.pairs(), 1);
    }

    private static void promise36Crowd_noneAt0() {
        is(new CourtMoorhens().crowd(0), 0);
        is(new CourtMoorhens().crowd(1), 0);
    }

    private static void promise36Crowd_ofAlikeOnesTheFirst() {
        CourtMoorhens x = court("bird 9 3;bird 10 1;bird 2 3;bird 4 1;");
        is(x.crowd(0), 4);
        is(x.crowd(1), 2);
        is(court("bird 7 3;").crowd(0), 7);
        is(court("bird 0 3;").crowd(1), 1);
    }

    private static void promise36Crowd_at0() {
        is(court("bird 0 1;bird 7 1;").crowd(0), 0);
        is(court("bird 0 1;").crowd(1), 1);
    }

    private static void promise36Crowd_allFour() {
        CourtMoorhens x = court(times(4, "bird 99 1;"));
        is(x.crowd(0), 99);
        is(x.crowd(1), 4);
    }

    private static void promise36Crowd_alsoAheadOfThisMinute() {
        CourtMoorhens x = court("bird 9 3;");
        pass(x, 40);
        is(x.crowd(0), 9);
    }

    private static void promise36Crowd_anotherWhat() {
        for (int what : new int[] {-1, 2, MIN, MAX}) {
            isArgument(() -> court(SMALL).crowd(what));
        }
    }

    private static void promise37Swing_bothWays() {
        CourtMoorhens x = court("say 0 1 9;say 0 0 4;say 1 0 20;");
        is(x.swing(0), -4);
        is(x.swing(1), 9);
        is(x.swing(2), 9 - 4 - 20);
    }

    private static void promise37Swing_whatFollowsStaysConcluded() {
        CourtMoorhens x = court("say 0 1 9;say 0 1 4;so 0 0 1;");
        is(x.swing(1), 13);
        is(x.swing(0), 4);
    }

    private static void promise37Swing_noSuchSaying() {
        CourtMoorhens x = court(SMALL);
        for (int saying : new int[] {-1, 3, 9, MIN, MAX}) {
            isMissing(() -> x.swing(saying));
        }
    }

    private static void promise37Swing_nothingStaysChanged() {
        CourtMoorhens x = court(SMALL);
        stays(x, () -> x.swing(0));
    }

    private static void promise38When_behindAtAndAhead() {
        CourtMoorhens x = court("say 0 1 1;say 1 1 1;say 2 1 1;say 3 1 1;");
        int[][] due = {{14, 1, 0}, {12, 2, 1}, {8, 4, 3}, {0, 8, 7}, {0, 0, 15}};
        for (int minute = 0; minute < 5; minute++) {
            for (int what = 0; what <= 2; what++) {
                is(x.when(what), due[minute][what]);
            }
            Check.work(x, "minute;");
        }
    }

    private static void promise38When_at400() {
        CourtMoorhens x = saidAt(400);
        is(x.when(0), 1);
        pass(x, 400);
        is(x.when(0), 0);
        is(x.when(1), 1);
        is(x.when(2), 0);
    }

    private static void promise38When_anotherWhat() {
        for (int what : new int[] {-1, 3, MIN, MAX}) {
            isArgument(() -> court(SMALL).when(what));
        }
    }

    public static void main(String[] args) throws IllegalAccessException {
        run(HearingEdgeTest.class);
    }
}
