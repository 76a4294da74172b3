/** The edges of what is asked of ways, sets, chances and TERMS: part 3 of the terms, and promises 17 to 25, 39 and 40. */
public final class SearchEdgeTest extends Edges {
    private static final String SMALL = "say 0 1 1;say 2 0 4;say 5 1 2;bird 0 2;bird 3 2;counsel 9 2;counsel 1 0;";
    private static final String NINE_AT_0 = times(9, "say 0 1 1;") + "bird 0 1;";
    /** By seeds the BIRD is led from 0, so that SAYING 1 does not COUNT by one MINUTE. */
    private static final String LED = "say 0 1 5;say 1 1 7;bird 0 1;counsel 40 0;";

    private static void hideIs(CourtMoorhens x, int sayings, int minutes, int way) {
        is(x.hide(sayings, 0), minutes);
        is(x.hide(sayings, 1), way);
    }

    private static void pairsAre(CourtMoorhens x, int many, int first) {
        is(x.fits(0), many);
        is(x.fits(1), first);
    }

    private static void lookIs(CourtMoorhens x, int saying, int left) {
        is(x.look(0), saying);
        is(x.look(1), left);
    }

    private static CourtMoorhens withBook(String court, String book) {
        CourtMoorhens x = court(court);
        Check.book(x, book);
        return x;
    }

    private static CourtMoorhens withLaw(String court, String law) {
        CourtMoorhens x = court(court);
        Check.law(x, law);
        return x;
    }

    // ---- Asked, nothing stays changed

    private static void termAsked_nothingStaysChanged() {
        CourtMoorhens x = withBook(SMALL, "1 1;");
        Check.law(x, "1+led+notes+crumbs%3");
        Check.work(x, "lead 0 1 1;note 0;call 0 0;");
        Check.law(x, "x");
        stays(x, () -> x.hide(7, 1));
        stays(x, () -> x.hide(4, 0));
        stays(x, () -> x.follows(7));
        stays(x, () -> x.proof(2));
        stays(x, () -> x.turn());
        stays(x, () -> x.fits(1));
        stays(x, () -> x.look(1));
        stays(x, () -> x.kind(12, 6, 9, 0));
        stays(x, () -> x.order(9, 5, 2));
        stays(x, () -> x.loaf(0, 3, 5));
        stays(x, () -> x.term(7, 9, 48, 0));
        stays(x, () -> x.span(7, 10, 9, 48, 0, 0));
        stays(x, () -> x.clear() + x.used() + x.pairs() + x.crowd(0));
        stays(x, () -> x.would(1, 1, 1, 1, 1, 1));
        stays(x, () -> x.leaders(0, 1) + x.delay(0) + x.over(0));
    }

    private static void termAsked_whatIsRefusedChangesNothing() {
        CourtMoorhens x = withBook(SMALL, "1 1;");
        Check.work(x, "lead 0 1 1;note 0;call 0 0;");
        Check.feed(x, "minute;");
        stays(x, () -> x.hide(8, 0));
        stays(x, () -> x.follows(-1));
        stays(x, () -> x.proof(3));
        stays(x, () -> x.fits(2));
        stays(x, () -> x.look(2));
        stays(x, () -> x.term(1, 17, 1, 0));
        stays(x, () -> x.span(1, 11, 1, 1, 0, 0));
        stays(x, () -> x.loaf(9, 0, 0));
        stays(x, () -> x.court(21));
        stays(x, () -> x.saying(3, 0));
    }

    // ---- HIDE

    private static void termHide_by0IfItDoesNotCountAlready() {
        hideIs(court("say 5 1 1;bird 5 1;"), 1, 0, 0);
    }

    private static void termHide_leadsABirdBy9AtTheMost() {
        hideIs(court("say 14 1 1;bird 5 1;"), 1, 9, 9);
        hideIs(court("say 15 1 1;bird 5 1;"), 1, -1, -1);
        hideIs(court("say 14 1 1;bird 5 1;bird 50 1;bird 60 1;bird 70 1;"), 1, 9, 9);
        hideIs(court("say 14 1 1;bird 50 1;bird 60 1;bird 5 1;bird 70 1;"), 1, 9, 900);
    }

    private static void termHide_doesNotBringABirdEarlier() {
        hideIs(court("say 4 1 1;bird 5 1;"), 1, -1, -1);
    }

    private static void termHide_ofNoSayings() {
        hideIs(new CourtMoorhens(), 0, 0, 0);
        hideIs(court("say 4 1 1;"), 0, 0, 0);
        hideIs(court("bird 5 1;"), 0, 0, 0);
    }

    private static void termHide_noneWithoutBirds() {
        hideIs(court("say 4 1 1;"), 1, -1, -1);
    }

    private static void termHide_thoseThatBeganAheadBy0Alone() {
        CourtMoorhens x = behind("say 14 1 1;say 6 1 1;say 7 1 1;bird 5 2;", "again 5[minute;];");
        hideIs(x, 1, 8, 8);
        hideIs(x, 4, 1, 1);
        Check.work(x, "minute;");
        hideIs(x, 1, -1, -1);
        hideIs(x, 4, -1, -1);
        hideIs(x, 2, 0, 0);
    }

    private static void termHide_withoutCounselAndCrumbs() {
        hideIs(court("say 9 1 1;bird 5 1;counsel 0 0;"), 1, 4, 4);
        hideIs(court("say 9 1 1;bird 5 1;"), 1, 4, 4);
    }

    private static void termHide_ledAsItWouldBeThen() {
        // By 2 it is ON at 7 to 9.
        hideIs(withLaw("say 9 1 1;bird 5 1;", "1+led"), 1, 2, 2);
    }

    private static void termHide_ledByNowAndMore() {
        CourtMoorhens x = behind("say 13 1 1;bird 5 1;counsel 9 0;", "lead 0 0 1;");
        Check.law(x, "1+led");
        // Led by 1 it is ON at 6 and 7, by 3 more at 9 to 13.
        hideIs(x, 1, 3, 3);
    }

    private static void termHide_crumbsAsNow() {
        hideIs(withLaw("say 9 1 1;bird 5 1;counsel 3 0;", "crumbs"), 1, 2, 2);
    }

    private static void termHide_beginAsItWouldBeThen() {
        // Led by 3 it is ON from 8 for 2 MINUTES.
        hideIs(withLaw("say 9 1 1;bird 5 1;", "most[1,begin-6]"), 1, 3, 3);
    }

    private static void termHide_allToldOnesAtOnce() {
        CourtMoorhens x = court("say 5 1 1;say 9 1 1;bird 5 1;");
        hideIs(x, 1, 0, 0);
        hideIs(x, 2, 4, 4);
        hideIs(x, 3, -1, -1);
    }

    private static void termHide_byFewestMinutesTogether() {
        // BIRD 0 by 5, or BIRD 1 by 2.
        hideIs(court("say 9 1 1;bird 4 1;bird 7 1;"), 1, 2, 20);
        hideIs(court("say 9 1 1;bird 7 1;bird 4 1;"), 1, 2, 2);
    }

    private static void termHide_ofAlikeWaysTheFirst() {
        hideIs(court("say 9 1 1;bird 7 1;bird 7 1;"), 1, 2, 20);
        hideIs(court("say 9 1 1;bird 7 1;bird 7 1;bird 7 1;bird 7 1;"), 1, 2, 2000);
        // 2 of BIRD 0 and 1 of BIRD 1, or 1 of BIRD 0 and 2 of BIRD 1.
        hideIs(court("say 9 1 1;say 10 1 1;bird 8 1;bird 8 1;"), 3, 3, 21);
    }

    private static void termHide_theMostMinutesByAllFour() {
        hideIs(court("say 9 1 1;say 19 1 1;say 29 1 1;say 39 1 1;bird 0 1;bird 10 1;bird 20 1;bird 30 1;"), 15, 36, 9999);
    }

    private static void termHide_theFirstBirdIsTheLowestDigit() {
        hideIs(court("say 1 1 1;say 12 1 1;say 23 1 1;say 34 1 1;bird 0 1;bird 10 1;bird 20 1;bird 30 1;"), 15, 10, 4321);
    }

    private static void termHide_allNine() {
        StringBuilder text = new StringBuilder("bird 0 20;");
        for (int saying = 0; saying < 9; saying++) {
            text.append("say ").append(16 + saying).append(" 1 1;");
        }
        hideIs(court(text.toString()), 511, 5, 5);
    }

    private static void promise17Hide_bitsOfNoSayings() {
        CourtMoorhens x = court(SMALL);
        for (int sayings : new int[] {-1, 8, 9, 512, MIN, MIN + 1, MAX}) {
            isArgument(() -> x.hide(sayings, 0));
            isArgument(() -> x.hide(sayings, 1));
        }
        isArgument(() -> new CourtMoorhens().hide(1, 0));
        isArgument(() -> court(NINE_AT_0).hide(512, 0));
        is(court(NINE_AT_0).hide(511, 0), 0);
    }

    private static void promise17Hide_anotherWhat() {
        for (int what : new int[] {-1, 2, MIN, MAX}) {
            isArgument(() -> court(SMALL).hide(0, what));
        }
    }

    // ---- follows, PROOF, TURN

    private static void promise18Follows_theseToo() {
        CourtMoorhens x = court("say 9 1 1;say 9 1 1;say 9 1 1;so 0 0 1;");
        is(x.follows(0), 0);
        is(x.follows(4), 4);
        is(x.follows(5), 7);
        is(x.follows(7), 7);
    }

    private static void promise18Follows_whetherTheyCountOrNot() {
        is(court("say 9 1 1;say 9 1 1;so 0 0 1;bird 9 1;").follows(1), 3);
    }

    private static void promise18Follows_bitsOfNoSayings() {
        CourtMoorhens x = court(SMALL);
        for (int sayings : new int[] {-1, 8, 15, 512, MIN, MIN + 1, MAX}) {
            isArgument(() -> x.follows(sayings));
        }
        isArgument(() -> new CourtMoorhens().follows(1));
        is(new CourtMoorhens().follows(0), 0);
        isArgument(() -> court(NINE_AT_0).follows(512));
        is(court(NINE_AT_0).follows(511), 511);
    }

    private static void promise19Proof_itselfIsOneOfThem() {
        CourtMoorhens x = court(NINE_AT_0);
        is(x.proof(0), 1);
        is(x.proof(8), 256);
    }

    private static void promise19Proof_ofFewest() {
        is(court("say 0 1 1;say 0 1 1;say 0 1 1;so 0 1 2;").proof(2), 4);
    }

    private static void promise19Proof_ofAsFewTheLeastBits() {
        CourtMoorhens x = court("say 0 1 1;say 0 1 1;say 0 1 1;so 1 1 2;so 2 2 0;");
        is(x.proof(2), 2);
        is(x.proof(0), 1);
        // By a chain from the first to the last.
        is(court(times(9, "say 9 1 1;") + "so 0 0 1;so 1 0 2;so 2 1 3;so 3 3 4;so 4 4 5;so 5 5 6;so 6 6 7;so 7 0 8;").proof(8), 1);
    }

    private static void promise19Proof_noSuchSaying() {
        CourtMoorhens x = court(SMALL);
        for (int saying : new int[] {-1, 3, 9, 31, 32, MIN, MAX}) {
            isMissing(() -> x.proof(saying));
        }
        isMissing(() -> new CourtMoorhens().proof(0));
    }

    private static void promise20Turn_isOfBits() {
        is(behind("say 1 0 5;say 1 0 5;say 0 1 60;bird 0 1;", "minute;").turn(), 4);
        is(court(times(8, "say 1 0 60;") + "say 0 1 1;bird 0 1;").turn(), 256);
    }

    private static void termTurn_noneIfNoneIsSaidAndDoesNotCount() {
        is(new CourtMoorhens().turn(), -1);
        is(court("say 0 1 5;").turn(), -1);
        is(court("say 1 1 5;bird 1 1;").turn(), -1);
    }

    private static void termTurn_whatIsSaidAtThisMinuteToo() {
        CourtMoorhens x = behind("say 1 1 5;say 2 1 6;bird 1 2;", "minute;");
        is(x.turn(), 1);
        is(behind("say 9 1 5;say 2 1 6;bird 1 2;bird 9 1;", "minute;minute;").turn(), 2);
    }

    private static void termTurn_from0To1() {
        is(court("say 0 1 1;bird 0 1;").turn(), 1);
        is(court("say 0 1 0;bird 0 1;").turn(), -1);
    }

    private static void termTurn_fromBelow0To0IsNotEnough() {
        String against = "say 1 0 5;bird 0 1;say 0 1 ";
        is(behind(against + "5;", "minute;").turn(), -1);
        is(behind(against + "6;", "minute;").turn(), 2);
    }

    private static void termTurn_fromAbove0To0IsEnough() {
        String with = "say 1 1 5;bird 0 1;say 0 0 ";
        is(behind(with + "4;", "minute;").turn(), -1);
        is(behind(with + "5;", "minute;").turn(), 2);
    }

    private static void termTurn_1IsAbove0() {
        is(behind("say 1 1 1;bird 0 1;say 0 0 1;", "minute;").turn(), 2);
        is(behind("say 1 1 1;bird 0 1;say 0 1 1;", "minute;").turn(), -1);
    }

    private static void termTurn_ofFewest() {
        // 3 and 3, or 6 alone.
        is(behind("say 1 0 5;say 0 1 3;say 0 1 3;say 0 1 6;bird 0 1;", "minute;").turn(), 8);
    }

    private static void termTurn_ofAsFewTheLeastBits() {
        is(behind("say 1 0 5;say 0 1 6;say 0 1 9;bird 0 1;", "minute;").turn(), 2);
        is(behind("say 1 0 5;say 0 1 3;say 0 1 3;say 0 1 4;bird 0 1;", "minute;").turn(), 6);
    }

    private static void termTurn_eightAtOnce() {
        is(behind("say 1 0 60;" + times(8, "say 0 1 8;") + "bird 0 1;", "minute;").turn(), 510);
    }

    private static void termTurn_byWhatFollows() {
        is(court("say 0 1 0;say 9 1 5;so 0 0 1;bird 0 1;").turn(), 1);
    }

    private static void termTurn_thoseThatAreHeardStay() {
        // SAYING 0 is HEARD: with 1 the RULE is of use.
        is(behind("say 1 1 0;say 0 1 0;say 99 1 5;so 0 1 2;bird 0 1;", "minute;").turn(), 2);
    }

    // ---- FITS, LOOK

    private static void termFits_allPairsByAnEmptyBook() {
        pairsAre(court("say 5 1 1;" + times(4, "bird 9 1;")), 40, 0);
        pairsAre(court("bird 9 1;"), 10, 0);
    }

    private static void termFits_noneWithoutBirds() {
        pairsAre(court("say 5 1 1;"), 0, -1);
        pairsAre(new CourtMoorhens(), 0, -1);
    }

    private static void termFits_noneIfNoLineCanBeRight() {
        pairsAre(withBook("say 5 1 1;bird 9 1;", "0 0;"), 0, -1);
    }

    private static void termFits_nIs0To9() {
        pairsAre(withBook("say 5 1 1;bird 5 1;", "0 0;"), 1, 0);
        pairsAre(withBook("say 14 1 1;bird 5 1;", "0 0;"), 1, 9);
        pairsAre(withBook("say 15 1 1;bird 5 1;", "0 0;"), 0, -1);
        pairsAre(withBook("say 14 1 1;bird 5 1;bird 50 1;", "0 0;"), 1, 9);
        pairsAre(withBook("say 14 1 1;bird 50 1;bird 5 1;bird 60 1;", "0 0;"), 1, 19);
        pairsAre(withBook("say 14 1 1;bird 5 1;bird 15 1;", "0 0;"), 1, 9);
    }

    private static void termFits_theLastPairOfAll() {
        pairsAre(withBook("say 99 1 1;bird 0 1;bird 0 1;bird 0 1;bird 90 1;", "0 0;"), 1, 39);
    }

    private static void termFits_allLinesAreRight() {
        String text = "say 5 1 1;say 6 1 1;say 20 1 1;bird 5 2;";
        pairsAre(withBook(text, "0 0;1 0;2 1;"), 1, 0);
        pairsAre(withBook(text, "0 1;1 0;"), 1, 1);
        pairsAre(withBook(text, "0 0;1 1;"), 0, -1);
        pairsAre(withBook(text, "0 1;1 1;"), 8, 2);
    }

    private static void termFits_whenItBeganAheadToo() {
        CourtMoorhens x = withBook("say 9 1 1;bird 5 1;", "0 0;");
        pass(x, 60);
        pairsAre(x, 1, 4);
    }

    private static void termFits_ledAsItWouldBeThen() {
        CourtMoorhens x = withBook("say 9 1 1;bird 5 1;", "0 0;");
        Check.law(x, "1+led");
        pairsAre(x, 3, 2);
    }

    private static void termFits_crumbsAsNow() {
        CourtMoorhens x = withBook("say 9 1 1;bird 5 1;counsel 3 0;", "0 0;");
        Check.law(x, "crumbs");
        pairsAre(x, 3, 2);
    }

    private static void termFits_theOtherBirdsStay() {
        pairsAre(withBook("say 9 1 1;bird 5 1;bird 9 1;", "0 0;"), 11, 0);
        pairsAre(withBook("say 9 1 1;bird 9 1;bird 5 1;", "0 0;"), 11, 0);
        pairsAre(withBook("say 9 1 1;bird 9 1;bird 5 1;", "0 1;"), 9, 1);
        pairsAre(withBook("say 9 1 1;bird 9 1;bird 9 1;bird 9 1;", "0 0;"), 30, 0);
        pairsAre(withBook("say 9 1 1;bird 9 1;bird 9 1;bird 9 1;", "0 1;"), 0, -1);
    }

    private static void promise21Fits_anotherWhat() {
        for (int what : new int[] {-1, 2, MIN, MAX}) {
            isArgument(() -> court(SMALL).fits(what));
        }
    }

    private static void termLook_noneIfAllAreInLines() {
        lookIs(withBook("say 5 1 1;say 6 1 1;bird 5 1;", "0 1;1 1;"), -1, -1);
    }

    private static void termLook_noneIfThereAreNoSayings() {
        lookIs(court("bird 5 1;"), -1, -1);
        lookIs(new CourtMoorhens(), -1, -1);
    }

    private static void termLook_withoutPairsNoneIsLeft() {
        lookIs(court("say 5 1 1;say 6 1 1;"), 0, 0);
        lookIs(withBook("say 5 1 1;say 6 1 1;bird 50 1;", "0 0;"), 1, 0);
    }

    private static void termLook_theWorstOfBothAnswers() {
        // It COUNTS in 9 of 10, or it does not in 9 of 10.
        lookIs(court("say 5 1 1;bird 5 1;"), 0, 9);
        lookIs(withLaw("say 14 1 1;bird 5 1;", "most[1,9*(1-led/9)]"), 0, 9);
    }

    private static void termLook_fewestAreLeft() {
        // In 10 pairs SAYING 1 does not COUNT in 5, the others in 10 or in none.
        lookIs(court("say 1 1 1;say 5 1 1;say 40 1 1;bird 1 5;"), 1, 5);
    }

    private static void termLook_ofTheseTheFirst() {
        lookIs(court("say 40 1 1;say 5 1 1;say 5 1 1;bird 1 5;"), 1, 5);
        lookIs(court("say 40 1 1;say 41 1 1;bird 1 5;"), 0, 10);
    }

    private static void termLook_inNoLine() {
        lookIs(withBook("say 40 1 1;say 5 1 1;say 5 1 1;bird 1 5;", "1 0;"), 0, 5);
        lookIs(withBook(times(9, "say 5 1 1;") + "bird 1 5;", "0 1;1 1;2 1;3 1;4 1;5 1;6 1;7 1;"), 8, 5);
    }

    private static void promise22Look_anotherWhat() {
        for (int what : new int[] {-1, 2, MIN, MAX}) {
            isArgument(() -> court(SMALL).look(what));
        }
    }

    // ---- KIND, ORDER, LOAF

    private static void kindIs(int n, int k, int q, long above, long below) {
        is(new CourtMoorhens().kind(n, k, q, 0), above);
        is(new CourtMoorhens().kind(n, k, q, 1), below);
    }

    private static void promise23Kind_nIs0To12() {
        kindIs(0, 0, 7, 1, 1);
        kindIs(12, 12, 8, 1, 4096);
        for (int n : new int[] {-1, 13, MIN, MAX}) {
            isArgument(() -> new CourtMoorhens().kind(n, 0, 0, 0));
        }
    }

    private static void promise23Kind_kIs0To13() {
        kindIs(12, 0, 7, 1, 1);
        kindIs(12, 13, 7, 0, 1);
        for (int k : new int[] {-1, 14, MIN, MAX}) {
            isArgument(() -> new CourtMoorhens().kind(12, k, 0, 0));
        }
    }

    private static void promise23Kind_qIs0To16() {
        kindIs(3, 1, 0, 0, 1);
        kindIs(3, 3, 16, 1, 1);
        for (int q : new int[] {-1, 17, MIN, MAX}) {
            isArgument(() -> new CourtMoorhens().kind(1, 1, q, 0));
        }
    }

    private static void promise23Kind_halfIs0Or1() {
        for (int half : new int[] {-1, 2, MIN, MAX}) {
            isArgument(() -> new CourtMoorhens().kind(1, 1, 1, half));
        }
    }

    private static void promise23Kind_kAboveNIs0By1() {
        kindIs(0, 1, 16, 0, 1);
        kindIs(5, 6, 16, 0, 1);
        kindIs(5, 13, 9, 0, 1);
    }

    private static void promise23Kind_inLeastTerms() {
        kindIs(1, 1, 1, 1, 16);
        kindIs(1, 1, 2, 1, 8);
        kindIs(1, 1, 4, 1, 4);
        kindIs(1, 1, 8, 1, 2);
        kindIs(1, 1, 12, 3, 4);
        kindIs(1, 1, 15, 15, 16);
        kindIs(2, 1, 8, 3, 4);
        kindIs(2, 1, 4, 7, 16);
        kindIs(2, 1, 1, 31, 256);
    }

    private static void promise23Kind_isLongerThan32Bits() {
        kindIs(12, 12, 15, 129746337890625L, 281474976710656L);
        kindIs(12, 1, 1, 151728638820031L, 281474976710656L);
        kindIs(12, 12, 1, 1, 281474976710656L);
        kindIs(8, 8, 1, 1, 4294967296L);
    }

    private static void promise24Order_vAndWAre0To99() {
        CourtMoorhens x = new CourtMoorhens();
        is(x.order(99, 0, 2), 198);
        is(x.order(99, 99, 2), 0);
        is(x.order(0, 99, 2), -198);
        for (int wrong : new int[] {-1, 100, MIN, MAX}) {
            isArgument(() -> x.order(wrong, 1, 0));
            isArgument(() -> x.order(1, wrong, 0));
        }
    }

    private static void promise24Order_anotherWhat() {
        for (int what : new int[] {-1, 3, MIN, MAX}) {
            isArgument(() -> new CourtMoorhens().order(1, 1, what));
        }
    }

    private static void promise24Order_oneRestIfVIsAbove0() {
        CourtMoorhens x = new CourtMoorhens();
        is(x.order(1, 99, 0), 1);
        is(x.order(1, 99, 1), 0);
        is(x.order(1, 99, 2), -196);
        is(x.order(1, 0, 0), 1);
    }

    private static void promise24Order_allFourRestIfVIs0() {
        CourtMoorhens x = new CourtMoorhens();
        is(x.order(0, 5, 0), 4);
        is(x.order(0, 5, 1), 0);
        is(x.order(0, 5, 2), -10);
        is(x.order(0, 0, 0), 4);
        is(x.order(0, 0, 2), 0);
    }

    private static void promise25Loaf_nIs0To999() {
        CourtMoorhens x = court("counsel 9 0;counsel 1 0;");
        is(x.loaf(0, 3, 0), 0);
        is(x.loaf(0, 3, 999), 9);
        for (int n : new int[] {-1, 1000, MIN, MAX}) {
            isArgument(() -> x.loaf(0, 3, n));
        }
    }

    private static void promise25Loaf_bitsOfNoCounsel() {
        CourtMoorhens x = court("counsel 9 0;counsel 1 0;");
        for (int all : new int[] {-1, 4, 7, 16, MIN, MIN + 1, MAX}) {
            isArgument(() -> x.loaf(0, all, 5));
        }
        CourtMoorhens y = court(times(4, "counsel 3 0;"));
        isArgument(() -> y.loaf(0, 16, 5));
        is(y.loaf(3, 15, 9), 2);
    }

    private static void promise25Loaf_noSuchCounselStandsAhead() {
        CourtMoorhens x = court("counsel 9 0;counsel 1 0;");
        for (int counsel : new int[] {-1, 2, 4, MIN, MAX}) {
            isMissing(() -> x.loaf(counsel, 3, 5));
            isMissing(() -> x.loaf(counsel, 99, 1000));
        }
        isMissing(() -> new CourtMoorhens().loaf(0, 0, 0));
    }

    private static void promise25Loaf_0IfItIsNoneOfThem() {
        CourtMoorhens x = court("counsel 9 0;counsel 8 0;");
        is(x.loaf(0, 2, 99), 0);
        is(x.loaf(0, 0, 99), 0);
        is(x.loaf(1, 2, 99), 8);
    }

    private static void promise25Loaf_noMoreThanNAreGiven() {
        CourtMoorhens x = court("counsel 9 0;counsel 9 0;counsel 2 0;");
        int[] due = {0, 0, 0, 1, 1, 1, 2, 2, 3, 3, 4, 4, 5, 5, 6, 6, 7, 7, 8, 8, 9, 9};
        for (int n = 0; n < due.length; n++) {
            is(x.loaf(0, 7, n), due[n]);
            is(x.loaf(2, 7, n), Math.min(2, due[n]));
        }
    }

    private static void promise25Loaf_allIfTheyAreNoMore() {
        CourtMoorhens x = court(times(3, "counsel 40 0;") + "counsel 39 0;");
        is(x.loaf(0, 15, 159), 40);
        is(x.loaf(0, 15, 158), 39);
        is(x.loaf(3, 15, 159), 39);
        is(x.loaf(3, 15, 999), 39);
    }

    private static void promise25Loaf_ofNoCrumbs() {
        CourtMoorhens x = court("counsel 0 0;counsel 9 0;");
        is(x.loaf(0, 3, 999), 0);
        is(x.loaf(0, 1, 0), 0);
        is(x.loaf(1, 3, 5), 5);
    }

    // ---- TERM

    private static int oneMinute(String court, int seed, int q, int what) {
        return court(court).term(seed, q, 1, what);
    }

    private static void termTerm_drawsBits16To30() {
        // By seeds 0, 1, 5 the first DRAW is 0, 16838 and 18655; bit 31 of a seed is none of these bits.
        is(oneMinute(NINE_AT_0, 0, 0, 2), 1);
        is(oneMinute(NINE_AT_0, 1, 0, 2), 1 << 8);
        is(oneMinute(NINE_AT_0, 5, 0, 2), 1 << 7);
        is(oneMinute(NINE_AT_0, MIN, 0, 2), 1);
        is(oneMinute(NINE_AT_0, MIN + 1, 0, 2), 1 << 8);
        is(oneMinute(NINE_AT_0, -1, 0, 2), 1 << 8);
        is(oneMinute(NINE_AT_0, MAX, 0, 2), 1 << 8);
    }

    private static void termTerm_isItBelowQ() {
        // By seed 23 that DRAW is 0, by seed 1 it is 1, by seed 2 it is 15; led by 7, by 2 and by 9.
        String one = "bird 99 1;counsel 40 0;";
        is(oneMinute(one, 23, 0, 3), 39);
        is(oneMinute(one, 23, 1, 3), 33);
        is(oneMinute(one, 1, 1, 3), 39);
        is(oneMinute(one, 1, 2, 3), 38);
        is(oneMinute(one, 2, 15, 3), 39);
        is(oneMinute(one, 2, 16, 3), 31);
    }

    private static void termTerm_drawsByHowManyCounselAndBirds() {
        // By seed 23 COUNSEL 1 of 4 leads BIRD 3 of 4 by 7, by seed 2 COUNSEL 0 and BIRD 1 by 9.
        String four = "say 7 1 1;say 9 1 2;" + times(3, "bird 0 1;") + "bird 0 1;counsel 8 0;counsel 7 0;counsel 8 0;counsel 8 0;";
        is(oneMinute(four, 23, 16, 0), 2);
        is(oneMinute(four, 23, 16, 3), 24);
        is(oneMinute(four, 2, 16, 0), 3);
        is(oneMinute(four, 2, 16, 3), 31);
    }

    private static void termTerm_drawsByHowManySayingsBehindTheBird() {
        // Seed 23: behind a lead the fifth DRAW notes SAYING 7 of 9, behind a call the fourth notes 6.
        String text = NINE_AT_0 + "bird 99 1;counsel 40 0;";
        CourtMoorhens x = withLaw(text, "9");
        Check.work(x, "minute;");
        is(x.term(23, 1, 1, 2), 1 << 7);
        is(x.term(23, 0, 1, 2), 1 << 6);
    }

    private static void termTerm_drawsNothingForBirdsWithoutCounsel() {
        is(oneMinute(NINE_AT_0, 5, 16, 2), 1 << 7);
    }

    private static void termTerm_drawsNothingForBirdsWithoutBirds() {
        CourtMoorhens x = court("say 0 1 5;counsel 40 0;");
        is(x.term(5, 16, 48, 3), 40);
        is(x.term(5, 16, 48, 1), 5);
    }

    private static void termTerm_drawsNothingWithoutSayings() {
        // By seed 23 it is led by 7; of the next DRAWS in a row, 14632, 19179 and 12407, the last is 7, then 31244 is 5.
        CourtMoorhens x = court("bird 99 1;counsel 40 0;");
        is(x.term(23, 8, 2, 3), 33 - 6);
        is(x.term(23, 7, 2, 3), 33 - 1);
    }

    private static void termTerm_isAsIsForNoClauses() {
        for (int what = 0; what <= 3; what++) {
            is(new CourtMoorhens().term(5, 16, 48, what), 0);
        }
    }

    private static void termTerm_whatCannotBeDoneChangesNothing() {
        // No CRUMBS: whatever is drawn, none is called or led; what COUNTS is not noted.
        CourtMoorhens x = court("say 5 1 9;bird 3 1;counsel 0 0;");
        for (int seed = 0; seed < 20; seed++) {
            is(x.term(seed, 8, 48, 0), 1);
            is(x.term(seed, 8, 48, 2), 0);
            is(x.term(seed, 8, 48, 3), 0);
        }
    }

    private static void termTerm_beginsAsAllIsNow() {
        // BIRD 1 was led by 4: it is ON at 7 to 10 in any TERM, for no COUNSEL has a CRUMB more.
        CourtMoorhens x = withLaw("say 6 1 1;say 10 1 2;say 11 1 4;bird 50 1;bird 3 1;counsel 4 0;", "most[1,led]");
        Check.work(x, "minute;lead 0 1 4;");
        is(x.term(3, 8, 48, 0), 5);
        is(x.term(3, 8, 48, 1), 5);
        is(x.term(3, 8, 48, 3), 0);
        is(x.term(3, 8, 9, 1), 1);
    }

    private static void termTerm_minutesPassBehindEach() {
        CourtMoorhens x = court("say 0 1 1;say 1 1 2;say 2 1 4;say 47 1 8;say 48 1 16;");
        is(x.term(9, 8, 1, 1), 3);
        is(x.term(9, 8, 2, 1), 7);
        is(x.term(9, 8, 47, 1), 15);
        is(x.term(9, 8, 48, 1), 31);
    }

    private static void termTerm_minutesPassBeyond400Too() {
        CourtMoorhens x = court("say 0 1 1;bird 0 1;");
        pass(x, 400);
        // The one SAYING is noted, and not any more, by turns, at 400 and beyond.
        is(x.term(9, 8, 1, 2), 1);
        is(x.term(9, 8, 2, 2), 0);
        is(x.term(9, 8, 47, 2), 1);
        is(x.term(9, 8, 48, 2), 0);
        is(x.told(4), 400);
    }

    private static void promise39Term_minutesAre1To48() {
        CourtMoorhens x = court("say 48 1 7;");
        is(x.term(1, 8, 1, 1), 0);
        is(x.term(1, 8, 48, 1), 7);
        for (int minutes : new int[] {0, 49, -1, MIN, MAX}) {
            isArgument(() -> x.term(1, 8, minutes, 1));
        }
    }

    private static void promise39Term_qIs0To16() {
        CourtMoorhens x = court("bird 99 1;counsel 40 0;");
        is(x.term(2, 0, 1, 3), 39);
        is(x.term(2, 16, 1, 3), 31);
        for (int q : new int[] {-1, 17, MIN, MAX}) {
            isArgument(() -> x.term(1, q, 1, 1));
        }
    }

    private static void promise39Term_anotherWhat() {
        for (int what : new int[] {-1, 4, MIN, MAX}) {
            isArgument(() -> court(SMALL).term(1, 1, 1, what));
        }
    }

    private static void promise39Term_nothingStaysChanged() {
        CourtMoorhens x = behind(SMALL, "note 0;minute;");
        Check.law(x, "1+led+notes");
        for (int what = 0; what <= 3; what++) {
            int asked = what;
            stays(x, () -> x.term(77, 8, 48, asked));
        }
        is(x.undo(), 0);
        is(x.told(8), 0);
    }

    private static void promise40Span_manyIs1To10() {
        CourtMoorhens x = court(LED);
        // By seeds -2 to 7 it is led by 1, 7, 5, 2, 9, 6, 4, 9, 7, 4.
        is(x.span(-2, 1, 16, 1, 2, 1), 0);
        is(x.span(-2, 10, 16, 1, 2, 1), 9);
        is(x.span(-2, 10, 16, 1, 2, 0), 10);
        for (int many : new int[] {0, 11, -1, MIN, MAX}) {
            isArgument(() -> x.span(-2, many, 16, 1, 2, 1));
        }
    }

    private static void promise40Span_theLeastAndTheMost() {
        CourtMoorhens x = court(LED);
        is(x.span(-2, 10, 16, 1, 0, 0), 5);
        is(x.span(-2, 10, 16, 1, 1, 0), 12);
        is(x.span(-2, 1, 16, 1, 1, 0), 5);
        is(x.span(-1, 9, 16, 1, 0, 0), 12);
        is(x.span(-3, 2, 16, 1, 0, 0), 5);
        is(x.span(-3, 1, 16, 1, 0, 0), 12);
    }

    private static void promise40Span_ofLeansBelow0() {
        CourtMoorhens x = court("say 0 0 5;say 1 0 7;bird 0 1;counsel 40 0;");
        is(x.span(-2, 10, 16, 1, 0, 0), -12);
        is(x.span(-2, 10, 16, 1, 1, 0), -5);
    }

    private static void promise40Span_seedsWrap() {
        // By the greatest seed it is led by 7, by the least, which is next, by 5, and then by 2.
        CourtMoorhens x = court("say 5 1 1;bird 0 1;counsel 40 0;");
        is(x.span(MAX, 1, 16, 1, 2, 0), 1);
        is(x.span(MAX, 2, 16, 1, 2, 0), 1);
        is(x.span(MAX, 3, 16, 1, 2, 0), 2);
        is(x.span(MIN, 1, 16, 1, 2, 0), 0);
    }

    private static void promise40Span_eachSeedBeginsAsAllIsNow() {
        CourtMoorhens x = court(LED);
        is(x.span(-2, 3, 16, 1, 2, 1), 2);
        is(x.span(0, 10, 16, 48, 2, 0), 10);
        is(x.counsel(0, 0), 40);
    }

    private static void promise40Span_minutesQAndWhatAsInTerm() {
        CourtMoorhens x = court(LED);
        for (int minutes : new int[] {0, 49, MIN, MAX}) {
            isArgument(() -> x.span(1, 1, 1, minutes, 0, 0));
        }
        for (int q : new int[] {-1, 17, MIN, MAX}) {
            isArgument(() -> x.span(1, 1, q, 1, 0, 0));
        }
        for (int what : new int[] {-1, 3, MIN, MAX}) {
            isArgument(() -> x.span(1, 1, 1, 1, what, 0));
        }
        is(x.span(1, 1, 0, 48, 0, 1), x.term(1, 0, 48, 1));
    }

    private static void promise40Span_noSuchSayingIsAWrongArgument() {
        CourtMoorhens x = court(LED);
        for (int what = 0; what <= 2; what++) {
            int asked = what;
            for (int saying : new int[] {-1, 2, MIN, MAX}) {
                isArgument(() -> x.span(1, 1, 1, 1, asked, saying));
            }
            isArgument(() -> new CourtMoorhens().span(1, 1, 1, 1, asked, 0));
        }
        is(x.status(0), 0);
        is(x.status(1), 12);
    }

    public static void main(String[] args) throws IllegalAccessException {
        run(SearchEdgeTest.class);
    }
}
