/** The boundary cases that promises 22 to 33 name: the penny, the hired, what contradicts, odds, what is told, the image. */
public final class BoundaryToldTest {
    private static final int LEAST = Run.LEAST;
    private static final int MOST = Run.MOST;

    public static void main(String[] args) throws Exception { Cases.runAll(BoundaryToldTest.class, 22, 33); }

    // Promise 22: tested.

    static void p22_loadBelow20Less() { new Run().idle(-1, "tested", -21, -1).idle(-1, "tested", LEAST, -1).due(0, "about", 7).due(1, "tested", -20, -1).due(1, "about", 7).due(1023, "fits"); }

    static void p22_loadAbove20() { new Run().due(1, "tested", 20, 1).due(1023, "fits").idle(-1, "tested", 21, 1).idle(-1, "tested", MOST, 1).due(1, "about", 7); }

    static void p22_hungBelow1Less() { new Run().idle(-1, "tested", 0, -2).idle(-1, "tested", 0, LEAST).due(1, "tested", -1, -1).due(1, "fits"); }

    static void p22_hungAbove1() { new Run().due(1, "tested", 0, 1).due(1022, "fits").idle(-1, "tested", 0, 2).idle(-1, "tested", 0, MOST); }

    static void p22_twelveAndAThirteenth() {
        Run r = new Run();
        for (int i = 1; i <= 12; i++) r.due(i, "tested", 0, 1).due(i, "about", 7);
        r.idle(-1, "tested", 0, 1).idle(-1, "tested", -9, 0).idle(-1, "tested", 21, 0).due(12, "about", 7).due(1022, "fits");
    }

    static void p22_roomAgainBehindBack() {
        Run r = new Run();
        for (int i = 1; i <= 11; i++) r.due(i, "tested", 20, 1);
        r.due(0, "image").due(12, "tested", 0, 0).due(-1, "tested", 0, 1).due(0, "back").due(11, "about", 7).due(1023, "fits").due(12, "tested", 0, 1).due(-1, "tested", 0, 1);
    }

    static void p22_whatCantBeIsTestedToo() { new Run().due(1, "tested", 20, -1).due(0, "fits").due(2, "tested", 20, 1).due(0, "fits"); }

    static void p22_isNoStepAndStaysBehindUndo() { new Run().due(0, "judge", 0).due(1, "tested", 0, 0).due(1, "about", 6).due(0, "undo").due(1, "about", 7).due(1, "fits"); }

    // Promise 23: fits.

    static void p23_nothingIsTested() { new Run().idle(1023, "fits"); }

    /** Load and PENNY together below, at and above 0, for each PENNY at which that turns. */
    static void p23_aboutLevel() {
        for (int penny = 0; penny <= 9; penny++) {
            new Run().due(1, "tested", -penny, 0).due(1 << penny, "fits");
            new Run().due(1, "tested", -penny, -1).due((1 << penny) - 1, "fits");
            new Run().due(1, "tested", -penny, 1).due(1023 & ~((2 << penny) - 1), "fits");
        }
    }

    static void p23_loadsBeyondThePennies() {
        for (int load : new int[] {-20, -10}) {
            new Run().due(1, "tested", load, -1).due(1023, "fits");
            new Run().due(1, "tested", load, 0).due(0, "fits");
            new Run().due(1, "tested", load, 1).due(0, "fits");
        }
        for (int load : new int[] {1, 20}) {
            new Run().due(1, "tested", load, 1).due(1023, "fits");
            new Run().due(1, "tested", load, 0).due(0, "fits");
            new Run().due(1, "tested", load, -1).due(0, "fits");
        }
    }

    static void p23_allThatWasTested() { new Run().due(1, "tested", -2, 1).due(1016, "fits").due(2, "tested", -4, -1).due(8, "fits").due(3, "tested", -3, 0).due(8, "fits").due(4, "tested", -3, 1).due(0, "fits"); }

    // Promise 24: next.

    static void p24_noPennyFits() { new Run().due(1, "tested", 0, -1).idle(-99, "next"); }

    static void p24_oneFits() {
        for (int penny = 0; penny <= 9; penny++) new Run().due(1, "tested", -penny, 0).idle(-20, "next");
    }

    static void p24_twoFit() {
        // 0 and 1: the load -1 parts them, as 0 does; 8 and 9: -9.
        new Run().due(1, "tested", -2, -1).due(3, "fits").idle(-1, "next");
        new Run().due(1, "tested", -7, 1).due(768, "fits").idle(-9, "next");
    }

    static void p24_threeFit() { new Run().due(1, "tested", -3, -1).idle(-1, "next"); }

    static void p24_allFit() { new Run().idle(-5, "next"); }

    static void p24_ofLikeOnesTheLowest() {
        // Of nine 4, 1 and 4; of eight 4 at most: by -4 (4, 1, 3) or by -3 (3, 1, 4).
        new Run().due(1, "tested", -9, -1).due(511, "fits").idle(-4, "next");
        new Run().due(1, "tested", -8, -1).due(255, "fits").idle(-4, "next");
        new Run().due(1, "tested", -4, -1).due(15, "fits").idle(-2, "next");
    }

    // Promise 25: hired.

    static void p25_needBelow1() { new Run().due(0, "eater", 0, 1, 0).due(1, "hired", 1).idle(-1, "hired", 0).idle(-1, "hired", -1).idle(-1, "hired", LEAST); }

    static void p25_needAbove9999() { new Run().due(0, "eater", 0, 1, 0).ruledBy("holds 9999;").due(1, "hired", 9998).due(1, "hired", 9999).idle(-1, "hired", 10000).idle(-1, "hired", MOST).due(1, "eater", 0, 1, 0).due(-1, "hired", 10000); }

    static void p25_nobody() { new Run().idle(-1, "hired", 1); }

    static void p25_justThatMuch() {
        Run r = new Run().due(0, "eater", 0, 1, 5).due(1, "eater", 0, 2, 9).due(1, "hired", 19).due(1, "hired", 20).due(2, "hired", 21).due(2, "hired", 40).due(3, "hired", 41).due(3, "hired", 60);
        r.idle(-1, "hired", 61);
    }

    static void p25_whatItStillHolds() {
        Run r = Run.pots(99, 0, 0, 0).seated(9, 1, 0, 0).due(1, "hired", 20).due(10, "spoon", 0, 0).due(1, "hired", 10).due(-1, "hired", 11).due(10, "spoon", 0, 0).due(-1, "hired", 1);
        r.due(2, "undo").due(1, "hired", 10);
    }

    static void p25_allNine() {
        Run r = new Run();
        for (int e = 0; e < 9; e++) r.due(e, "eater", 0, 9, 99);
        r.due(1, "hired", 180).due(3, "hired", 181).due(255, "hired", 1440).due(511, "hired", 1441).due(511, "hired", 1620).due(-1, "hired", 1621);
        r.ruledBy("holds 1111;").due(511, "hired", 9999).ruledBy("holds 1110;").due(511, "hired", 9990).due(-1, "hired", 9991).due(-1, "hired", 9999);
    }

    static void p25_theLeastPrice() {
        // 98 for two, 99 for one.
        new Run().due(0, "eater", 0, 2, 99).due(1, "eater", 0, 1, 49).due(2, "eater", 0, 1, 49).due(6, "hired", 40).due(2, "hired", 20);
    }

    static void p25_ofLikeOnesFewer() { new Run().due(0, "eater", 0, 1, 49).due(1, "eater", 0, 1, 50).due(2, "eater", 0, 2, 99).due(4, "hired", 40).due(1, "hired", 20); }

    static void p25_ofLikeOnesTheLowest() {
        new Run().due(0, "eater", 0, 1, 7).due(1, "eater", 0, 1, 7).due(2, "eater", 0, 1, 7).due(1, "hired", 20).due(3, "hired", 21).due(7, "hired", 60);
        // Those who cost nothing are not hired for nothing.
        new Run().due(0, "eater", 0, 1, 0).due(1, "eater", 0, 1, 0).due(2, "eater", 0, 2, 0).due(1, "hired", 1).due(4, "hired", 21).due(5, "hired", 41);
    }

    static void p25_awayOrNot() { new Run().due(0, "eater", 0, 1, 0).due(1, "hired", 20).due(true, "sit", 0, 1).due(1, "hired", 20); }

    /** EATERS who are gone with what was told behind the image are hired no more, whatever they held. */
    static void p25_goneBehindBack() {
        new Run().due(0, "eater", 0, 9, 0).due(1, "hired", 180).due(0, "back").idle(-1, "hired", 1).due(0, "eater", 0, 1, 0).due(1, "hired", 20).idle(-1, "hired", 21);
        Run r = new Run().due(0, "eater", 0, 1, 9).due(0, "image").due(1, "eater", 0, 9, 0).due(2, "hired", 20).due(2, "hired", 180).due(0, "back").due(1, "hired", 20).idle(-1, "hired", 21);
        r.due(1, "eater", 0, 2, 99).due(1, "hired", 20).due(2, "hired", 21).due(3, "hired", 41).idle(-1, "hired", 61);
    }

    // Promise 26: contrary.

    static void p26_noDents() { new Run().idle(-1, "contrary"); }

    static void p26_oneDent() { new Run().due(0, "judge", 0).idle(-1, "contrary"); }

    static void p26_theFirstTwo() { new Run().ruledBy("guilty dents=0;").due(1, "judge", 0).due(0, "judge", 0).idle(1, "contrary"); }

    static void p26_anotherSideOrTiltIsNone() {
        Run r = new Run().ruledBy("guilty dents=0;").due(1, "judge", 0).due(0, "judge", 1).due(-1, "contrary").due(true, "pot", 0, 0, 1).due(0, "judge", 0).due(-1, "contrary");
        r.due(true, "pot", 0, 0, 0).due(0, "judge", 0).due(3, "contrary");
    }

    static void p26_theLastTwoOfThirty() {
        Run r = new Run().ruledBy("guilty dents=29;");
        for (int i = 0; i < 28; i++) r.due(0, "judge", 0);
        r.due(true, "pot", 0, 0, 1).due(0, "judge", 0).due(-1, "contrary").due(1, "judge", 0).due(30 * 28 + 29, "contrary").due(29, "undo").due(-1, "contrary");
    }

    static void p26_theFirstAndTheLastOfThirty() {
        Run r = new Run().ruledBy("guilty dents=29;");
        for (int i = 0; i < 29; i++) r.due(0, "judge", 1).due(-1, "contrary");
        r.due(1, "judge", 1).due(29, "contrary");
    }

    /** The first of the later ones counts, then the first of the earlier ones. */
    static void p26_ofMoreThanOne() {
        Run r = new Run().ruledBy("guilty dents=2 or dents=3;").due(0, "judge", 0).due(0, "judge", 0).due(1, "judge", 0).due(1, "judge", 0).due(2, "contrary");
        r.due(3, "undo").due(2, "contrary").due(2, "undo").due(-1, "contrary");
        // 1 and 2 contradict, and then 0 and 3: the later one of the first two comes first.
        Run s = new Run().ruledBy("guilty dents=1 or dents=3;").due(0, "judge", 0).due(1, "judge", 1).due(0, "judge", 1).due(32, "contrary").due(1, "judge", 0).due(32, "contrary");
        s.due(3, "undo").due(2, "undo").due(-1, "contrary");
    }

    // Promise 27: odds.

    static void p27_nBelow0() { new Run().due(1, "odds", 0, 0, false).idle(-1, "odds", 0, -1, false).idle(-1, "odds", 0, -1, true).idle(-1, "odds", 0, LEAST, true); }

    static void p27_nAbove6() { Run.pots(9, 9, 9, 9).due(5, "odds", 0, 6, false).due(16, "odds", 0, 6, true).idle(-1, "odds", 0, 7, false).idle(-1, "odds", 0, 7, true).idle(-1, "odds", 0, MOST, false); }

    static void p27_tBelow9999Less() { new Run().due(0, "odds", -9999, 1, false).due(1, "odds", -9999, 1, true).idle(-1, "odds", -10000, 1, false).idle(-1, "odds", -10000, 1, true).idle(-1, "odds", LEAST, 1, true); }

    static void p27_tAbove9999() { new Run().due(0, "odds", 9999, 1, false).due(1, "odds", 9999, 1, true).idle(-1, "odds", 10000, 1, false).idle(-1, "odds", 10000, 1, true).idle(-1, "odds", MOST, 1, false); }

    static void p27_noFlies() { Run.pots(5, 0, 0, 3).due(1, "odds", 2, 0, false).due(1, "odds", 2, 0, true).due(0, "odds", 1, 0, false).due(1, "odds", 1, 0, true).due(0, "odds", 3, 0, false); }

    static void p27_emptyPots() {
        for (int n = 0; n <= 6; n++) new Run().due(1, "odds", 0, n, false).due(1, "odds", 0, n, true).due(0, "odds", 1, n, false).due(1, "odds", 1, n, true).due(0, "odds", -1, n, false);
    }

    static void p27_asFarAsTheyCanGo() {
        Run r = Run.pots(9, 9, 9, 9);
        for (int n = 1; n <= 6; n++) r.due(1, "odds", n, n, false).due(1 << n, "odds", n, n, true).due(1, "odds", -n, n, false).due(1 << n, "odds", -n, n, true).due(0, "odds", n + 1, n, false).due(0, "odds", n - 1, n, false).due(1, "odds", n - 1, n, true);
    }

    /** One GRAIN: it is gone behind the first fly there, and stays gone. */
    static void p27_theLastGrainOfAPot() {
        for (int pot = 0; pot < 4; pot++) {
            int t = pot < 2 ? 1 : -1;
            Run r = new Run().due(true, "pot", pot / 2, pot % 2, 1).due(3, "odds", t, 1, false).due(4, "odds", t, 1, true).due(1, "odds", 0, 1, false).due(4, "odds", 0, 1, true);
            r.due(729, "odds", t, 6, false).due(4096, "odds", t, 6, true).due(4096 - 729, "odds", 0, 6, false).due(4096, "odds", 0, 6, true);
        }
    }

    static void p27_aGrainFewerThanFlies() {
        // All five GRAINS are gone behind 6 flies by 5 or 6 of them: 18 and 1 ways.
        Run.pots(5, 0, 0, 0).due(19, "odds", 0, 6, false).due(4096, "odds", 0, 6, true).due(729, "odds", 5, 6, false).due(0, "odds", -1, 6, false).due(1, "odds", 0, 5, false).due(1024, "odds", 0, 5, true);
        Run.pots(6, 0, 0, 0).due(1, "odds", 0, 6, false).due(4096, "odds", 0, 6, true);
    }

    static void p27_fullPots() { Run.pots(999, 999, 0, 0).due(1, "odds", 1998, 0, false).due(1, "odds", 1998, 6, false).due(64, "odds", 1998, 6, true).due(1, "odds", 1992, 6, false).due(64, "odds", 1992, 6, true).due(5, "odds", 1995, 6, false).due(16, "odds", 1995, 6, true); }

    static void p27_inLowestTerms() {
        Run r = Run.pots(9, 9, 9, 9).due(1, "odds", 0, 2, false).due(2, "odds", 0, 2, true).due(3, "odds", 0, 4, false).due(8, "odds", 0, 4, true).due(3, "odds", 4, 6, false).due(32, "odds", 4, 6, true);
        r.due(15, "odds", 2, 6, false).due(64, "odds", 2, 6, true);
    }

    static void p27_changesNothing() { Run.pots(3, 2, 1, 0).idle(1, "odds", 4, 0, false).idle(1, "odds", 5, 1, false).idle(4, "odds", 5, 1, true); }

    // Promise 28: tell.

    static void p28_eaterBelowNone() { new Run().due(0, "eater", 0, 1, 0).idle(-2, "tell", -2, 1).idle(-2, "tell", LEAST, 1).idle(0, "tell", -1, 1).due(1, "tell", 0, 1); }

    static void p28_eaterWhoIsNotThere() {
        Run r = new Run().idle(-2, "tell", 0, 1);
        for (int e = 0; e < 9; e++) r.due(e, "eater", 0, 1, 0).due(e + 1, "tell", e, 1).idle(-2, "tell", e + 1, 1);
        r.idle(-2, "tell", MOST, 1).due(511, "liars");
    }

    static void p28_grainsBelow1() { new Run().due(0, "eater", 0, 1, 0).idle(-2, "tell", 0, 0).idle(-2, "tell", 0, -1).idle(-2, "tell", 0, LEAST).due(0, "liars").due(1, "tell", 0, 1).due(1, "liars"); }

    static void p28_grainsAbove999() { new Run().due(0, "eater", 0, 1, 0).due(1, "tell", 0, 998).due(2, "tell", 0, 999).idle(-2, "tell", 0, 1000).idle(-2, "tell", 0, MOST).due(2, "about", 8); }

    static void p28_twentyAndATwentyFirst() {
        Run r = new Run().due(0, "eater", 0, 1, 0).due(1, "eater", 0, 1, 0);
        for (int i = 1; i <= 20; i++) r.due(i, "tell", 0, 1).due(i, "about", 8);
        r.idle(-2, "tell", 0, 1).idle(-2, "tell", 1, 1).due(1, "liars").due(20, "about", 8);
    }

    static void p28_noneAnyMore() {
        Run r = new Run().due(0, "eater", 0, 1, 0).idle(0, "tell", -1, 0);
        for (int i = 1; i <= 20; i++) r.due(i, "tell", 0, 999);
        r.due(0, "tell", -1, 0).due(0, "about", 8).due(0, "liars").due(1, "tell", 0, 1).due(1, "about", 8);
    }

    static void p28_roomAgainBehindBack() {
        Run r = new Run().due(0, "eater", 0, 1, 0);
        for (int i = 1; i <= 19; i++) r.due(i, "tell", 0, 1);
        r.due(0, "image").due(20, "tell", 0, 1).due(-2, "tell", 0, 1).due(0, "back").due(19, "about", 8).due(20, "tell", 0, 1).due(-2, "tell", 0, 1);
        r.due(0, "tell", -1, 0).due(0, "back").due(19, "about", 8).due(1, "liars");
    }

    static void p28_isNoStepAndStaysBehindUndo() { new Run().due(0, "eater", 0, 1, 0).due(0, "judge", 0).due(1, "tell", 0, 1).due(1, "about", 6).due(0, "undo").due(1, "about", 8).due(1, "liars"); }

    // Promise 29: liars.

    static void p29_nobody() { new Run().idle(0, "liars").due(0, "eater", 0, 1, 0).idle(0, "liars"); }

    static void p29_aGrainLessJustAndMore() {
        Run r = Run.pots(9, 0, 0, 0).seated(2, 1, 0, 0).due(3, "spoon", 0, 0).idle(1, "liars").due(1, "tell", 0, 2).idle(1, "liars").due(2, "tell", 0, 1).idle(0, "liars");
        r.due(3, "tell", 0, 1).idle(1, "liars");
    }

    static void p29_allNine() {
        Run r = new Run();
        for (int e = 0; e < 9; e++) r.due(e, "eater", 0, 1, 0).due(e + 1, "tell", e, 1).due((2 << e) - 1, "liars");
        r.due(0, "tell", -1, 0).due(0, "liars").due(1, "tell", 8, 1).due(256, "liars");
    }

    static void p29_spoonsThatAreTakenBack() { Run.pots(9, 0, 0, 0).seated(2, 1, 0, 0).due(3, "spoon", 0, 0).due(1, "tell", 0, 3).due(0, "liars").due(1, "undo").due(1, "liars").due(3, "spoon", 0, 0).due(0, "liars"); }

    static void p29_asMuchAsCanBe() {
        Run r = new Run().due(true, "pot", 0, 0, 999).seated(0, 1, 0, 0).ruledBy("eats 99;holds 9999;");
        for (int i = 0; i < 10; i++) r.due(99, "spoon", 0, 0);
        r.due(9, "spoon", 0, 0).due(1, "tell", 0, 999).due(0, "liars").due(true, "pot", 0, 0, 999).due(99, "spoon", 0, 0).due(1, "liars");
        for (int i = 2; i <= 20; i++) r.due(i, "tell", 0, 999);
        r.due(1, "liars");
    }

    // Promise 30: inWhoseName.

    static void p30_eaterBelow0() { Run.pots(9, 0, 0, 0).seated(2, 1, 0, 0).due(1, "eater", 0, 1, 0).due(3, "spoon", 0, 0).due(1, "tell", 1, 3).due(1, "inWhoseName", 0).idle(-1, "inWhoseName", -1).idle(-1, "inWhoseName", LEAST); }

    static void p30_eaterWhoIsNotThere() { Run.pots(9, 0, 0, 0).idle(-1, "inWhoseName", 0).seated(2, 1, 0, 0).due(1, "eater", 0, 1, 0).due(1, "tell", 0, 3).due(true, "sit", 1, 0).idle(-1, "inWhoseName", 2).idle(-1, "inWhoseName", 9).idle(-1, "inWhoseName", MOST); }

    static void p30_noMoreThanWasTold() {
        // Told 2 of 3, then 3, then 4, while 1 was told of another who ate nothing.
        Run r = Run.pots(9, 0, 0, 0).seated(2, 1, 0, 0).due(1, "eater", 0, 1, 0).due(3, "spoon", 0, 0).due(1, "tell", 0, 2).due(2, "tell", 1, 1).idle(1, "inWhoseName", 0);
        r.due(3, "tell", 0, 1).idle(-1, "inWhoseName", 0).due(4, "tell", 0, 1).idle(-1, "inWhoseName", 0);
    }

    /** Who ate just what was told, 0 or more, ate in nobody's name: not in that of one who ate as told, either. */
    static void p30_justWhatWasTold() {
        Run r = Run.pots(9, 0, 0, 0).seated(2, 1, 0, 0).seated(2, 1, 0, 0).idle(-1, "inWhoseName", 0).due(3, "spoon", 0, 0).due(1, "tell", 0, 3).idle(-1, "inWhoseName", 0);
        r.due(3, "spoon", 1, 0).due(2, "tell", 1, 3).idle(-1, "inWhoseName", 0).idle(-1, "inWhoseName", 1).due(0, "liars");
    }

    static void p30_justThatMuchMore() {
        int[][] cases = {{2, -1}, {3, 1}, {4, -1}};
        for (int[] c : cases) Run.pots(9, 0, 0, 0).seated(2, 1, 0, 0).due(1, "eater", 0, 1, 0).due(3, "spoon", 0, 0).due(1, "tell", 1, c[0]).due(c[1], "inWhoseName", 0).due(-1, "inWhoseName", 1);
    }

    static void p30_moreThanTheOtherAte() {
        Run r = Run.pots(9, 0, 0, 0).seated(2, 1, 0, 0).seated(1, 1, 0, 0).due(3, "spoon", 0, 0).due(2, "spoon", 1, 0);
        r.due(1, "tell", 1, 3).due(-1, "inWhoseName", 0).due(2, "tell", 1, 1).due(-1, "inWhoseName", 0).due(3, "tell", 1, 1).due(1, "inWhoseName", 0).due(4, "tell", 1, 1).due(-1, "inWhoseName", 0);
    }

    static void p30_nobodyElseIsThere() { Run.pots(9, 0, 0, 0).seated(2, 1, 0, 0).due(3, "spoon", 0, 0).idle(-1, "inWhoseName", 0); }

    static void p30_theLowestOther() {
        Run r = Run.pots(9, 0, 0, 0);
        for (int e = 0; e < 9; e++) r.seated(2, 1, 0, 0);
        r.due(3, "spoon", 4, 0).due(1, "tell", 8, 3).due(8, "inWhoseName", 4).due(2, "tell", 5, 3).due(5, "inWhoseName", 4).due(3, "tell", 0, 3).due(0, "inWhoseName", 4).due(-1, "inWhoseName", 0);
    }

    // Promise 31: image.

    static void p31_noSpoons() { new Run().due(0, "image").due(0, "back"); }

    static void p31_sixtySpoons() {
        Run r = new Run().due(true, "pot", 0, 0, 999).seated(0, 9, 0, 0);
        for (int i = 0; i < 60; i++) r.due(1, "spoon", 0, 0);
        r.due(60, "image").due(-1, "spoon", 0, 0);
        for (int i = 0; i < 30; i++) r.due(29 - i, "undo");
        r.due(30, "written", -1, 0).due(60, "back").due(60, "written", -1, 0).due(30, "about", 6).due(1, "written", 59, 3).due(60, "of", 0, 4).due(-1, "spoon", 0, 0);
    }

    static void p31_theLatestAlone() {
        Run.pots(9, 0, 0, 0).seated(0, 1, 0, 0).due(0, "image").due(1, "spoon", 0, 0).due(1, "image").due(1, "spoon", 0, 0).due(1, "back").due(1, "back").due(8, "about", 10).due(1, "undo").due(9, "about", 10);
    }

    static void p31_isNoStep() { new Run().due(0, "image").due(0, "about", 6).due(0, "judge", 0).due(0, "image").due(1, "about", 6).due(0, "undo").due(-1, "undo"); }

    static void p31_asAllIsNow() { filled().due(6, "image").dueAsIn(filled().due(6, "image").due(3, "spoon", 0, 1).due(6, "back")); }

    static void p31_changesNothingElse() {
        Run r = filled();
        long[] seen = new long[14];
        for (int what = 0; what <= 13; what++) seen[what] = r.call("about", what);
        r.due(6, "image").idle(6, "image");
        for (int what = 0; what <= 13; what++) r.due(seen[what], "about", what);
        r.due(6, "written", -1, 0).due(2, "dent", -1, 0).due(10, "undo");
    }

    /** A court in which something of each kind was told and done. */
    private static Run filled() {
        Run r = Run.pots(99, 98, 97, 96).seated(1, 2, 3, 0).seated(4, 5, 6, 1).due(2, "eater", 7, 8, 9).ruledBy("eats hunger+2;").told(1, "judge 0;").due(true, "seed", 77);
        for (int i = 0; i < 6; i++) r.due(i % 2 == 0 ? 3 : 6, "spoon", i % 2, i / 3);
        return r.due(0, "judge", 0).due(1, "judge", 1).due(40, "flies", 40).due(1, "tested", -4, 1).due(1, "tell", 0, 5).due(2, "tell", 2, 7);
    }

    // Promise 32: back.

    static void p32_atOnce() { filled().due(6, "image").idle(6, "back"); }

    static void p32_allIsAsAtTheImage() {
        Run r = filled().due(6, "image").due(3, "spoon", 0, 0).due(0, "judge", 0).due(40, "flies", 40).due(true, "sit", 2, 1).due(9, "spoon", 2, 1).due(true, "sit", 0, 2).due(3, "eater", 1, 1, 1).due(true, "pot", 0, 0, 0);
        r.due(true, "seed", 0).due(2, "text").due(true, "by", 2).due(2, "tested", 0, 0).due(0, "tell", -1, 0).due(1, "tell", 1, 1);
        Run before = filled().due(6, "image").due(6, "back");
        r.due(6, "back").due(0, "fault", 0).dueAsIn(before);
    }

    static void p32_itStays() {
        Run r = filled().due(6, "image");
        for (int i = 0; i < 3; i++) {
            r.due(3, "spoon", 0, 0).due(0, "judge", 0).due(2, "text");
            for (int undone = 0; undone < 5; undone++) r.call("undo");
            r.due(6, "back").due(2, "about", 2).due(2, "about", 4);
        }
        filled().due(6, "image").dueAsIn(r);
    }

    static void p32_stepsAsWell() {
        Run r = new Run();
        for (int i = 0; i < 31; i++) r.due(0, "flies", 1);
        r.due(0, "image");
        long x = r.call("about", 3);
        for (int i = 29; i >= 0; i--) r.due(i, "undo");
        for (int i = 0; i < 31; i++) r.due(0, "flies", 2);
        r.due(0, "back").due(30, "about", 6).due(x, "about", 3);
        for (int i = 29; i >= 0; i--) r.due(i, "undo");
        r.due(-1, "undo").due(644, "about", 3);
    }

    /** All sixty SPOONS and thirty DENTS are there again, though others came in the places of those that can be taken back. */
    static void p32_rowsThatOthersCameFor() {
        Run spoons = sixtySpoons().due(60, "image");
        for (int i = 29; i >= 0; i--) spoons.due(i, "undo");
        spoons.due(true, "sit", 0, 1).due(true, "sit", 1, 0);
        for (int i = 30; i < 60; i++) spoons.due(2 - i % 2, "spoon", 1 - i % 2, 1);
        spoons.due(60, "written", -1, 0).due(60, "back").dueAsIn(sixtySpoons().due(60, "image"));
        Run dents = thirtyDents().due(0, "image");
        for (int i = 29; i >= 0; i--) dents.due(i, "undo");
        dents.due(true, "pot", 0, 0, 7);
        for (int i = 0; i < 30; i++) dents.due(1 - i % 2, "judge", 1 - i % 2);
        dents.due(30, "dent", -1, 0).due(0, "back").dueAsIn(thirtyDents().due(0, "image"));
    }

    private static Run sixtySpoons() {
        Run r = Run.pots(99, 99, 99, 99).seated(0, 9, 0, 0).seated(1, 9, 0, 1);
        for (int i = 0; i < 60; i++) r.due(1 + i % 2, "spoon", i % 2, i / 5 % 2);
        return r;
    }

    private static Run thirtyDents() {
        Run r = Run.pots(0, 0, 3, 0);
        for (int i = 0; i < 30; i++) r.due(i % 2, "judge", 1 - i % 2);
        return r;
    }

    static void p32_noStepsWereThere() { new Run().due(0, "image").due(0, "judge", 0).due(0, "back").due(0, "about", 6).due(-1, "undo"); }

    static void p32_butTheTape() {
        new Run().tape("judge 1;").due(0, "image").due(0, "end", 0).due(0, "back").due(0, "about", 9);
        new Run().due(0, "image").tape("judge 1;").due(0, "back").due(8, "about", 9).due(0, "text").due(-1, "played", 0);
    }

    static void p32_butTheLatestFault() {
        new Run().told(-1, "judge 2;").due(0, "image").due(0, "text").due(0, "back").due(0, "fault", 0).due(-1, "fault", 1);
        new Run().due(0, "image").told(-1, "judge 2;").due(0, "back").due(2, "fault", 0).due(6, "fault", 1);
        new Run().due(0, "image").due(0, "back").due(-1, "fault", 0);
    }

    static void p32_textsToldBehindItAreGone() {
        Run r = new Run().told(0, "judge 0;").due(0, "image").told(1, "judge 1;").told(2, "judge 1;").told(3, "judge 1;").due(0, "back").due(1, "about", 4).due(-2, "played", 1).due(-2, "played", 3);
        r.due(-1, "played", 0).due(0, "dent", 0, 0).told(1, "judge 0;judge 1;").due(-1, "played", 1).due(3, "about", 2);
    }

    static void p32_theTextThatRuledIsGone() {
        new Run().due(0, "eater", 0, 1, 0).due(0, "image").ruledBy("holds 7;").due(7, "of", 0, 5).due(0, "back").due(-1, "about", 5).due(20, "of", 0, 5).told(0, "holds 8;").due(20, "of", 0, 5);
        new Run().due(0, "eater", 0, 1, 0).ruledBy("holds 7;").due(0, "image").due(true, "by", -1).due(0, "back").due(0, "about", 5).due(7, "of", 0, 5);
    }

    static void p32_eatersToldBehindItAreGone() {
        Run r = new Run().due(0, "eater", 1, 1, 1).due(0, "image").seated(9, 9, 9, 1).due(0, "back").due(1, "about", 0).due(-2, "of", 1, 0).due(false, "sit", 1, 0);
        r.due(1, "eater", 2, 2, 2).due(2, "of", 1, 3).due(0, "of", 1, 4).due(2, "of", 1, 0);
    }

    // Promise 33: about.

    static void p33_whatBelow0() { new Run().due(0, "about", 0).idle(-2, "about", -1).idle(-2, "about", -2).idle(-2, "about", LEAST); }

    static void p33_whatAbove13() { Run.pots(1, 2, 3, 4).due(4, "about", 13).idle(-2, "about", 14).idle(-2, "about", 15).idle(-2, "about", MOST); }

    static void p33_potsFromTheirLeastToTheirMost() {
        for (int pot = 0; pot < 4; pot++) {
            Run r = new Run().due(0, "about", 10 + pot).due(true, "pot", pot / 2, pot % 2, 999).due(999, "about", 10 + pot).due(false, "pot", pot / 2, pot % 2, 1000).due(999, "about", 10 + pot);
            r.due(pot < 2 ? 10999 : 9001, "about", 1);
        }
    }

    static void p33_tiltFromItsLeastToItsMost() { Run.pots(0, 0, 999, 999).due(8002, "about", 1).due(true, "pot", 0, 0, 999).due(9001, "about", 1).due(true, "pot", 0, 1, 999).due(10000, "about", 1).due(true, "pot", 1, 0, 0).due(true, "pot", 1, 1, 0).due(11998, "about", 1); }

    static void p33_eachAtItsMost() {
        Run r = new Run();
        for (int e = 0; e < 9; e++) r.due(e, "about", 0).due(e, "eater", 0, 1, 0);
        for (int i = 0; i < 30; i++) r.due(i, "about", 2).due(i, "about", 6).due(0, "judge", 0);
        for (int i = 0; i < 4; i++) r.due(i, "about", 4).due(i - 1, "about", 5).due(i, "text").due(true, "by", i);
        for (int i = 0; i < 12; i++) r.due(i, "about", 7).due(i + 1, "tested", 0, 0);
        for (int i = 0; i < 20; i++) r.due(i, "about", 8).due(i + 1, "tell", 0, 1);
        for (int i = 0; i < 15; i++) r.due(20 * i, "about", 9).due(20 * i + 20, "feed", 0, 0, 0, 0, 0);
        r.due(true, "seed", 9999);
        for (int what = 0; what <= 9; what++) r.due(new int[] {9, 10000, 30, 49998, 4, 3, 30, 12, 20, 300}[what], "about", what);
        r.call("flies", 1);
        r.due(30, "about", 6).due(-1, "eater", 0, 1, 0).due(-1, "judge", 0).due(-1, "text").due(-1, "tested", 0, 0).due(-2, "tell", 0, 1).due(-1, "feed", 0, 0, 0, 0, 0);
        for (int what = 0; what <= 9; what++) if (what != 3) r.due(new int[] {9, 10000, 30, 0, 4, 3, 30, 12, 20, 300}[what], "about", what);
    }

    static void p33_changesNothing() {
        Run r = filled();
        for (int what = 0; what <= 13; what++) {
            long answer = r.call("about", what);
            r.idle(answer, "about", what);
        }
    }
}
