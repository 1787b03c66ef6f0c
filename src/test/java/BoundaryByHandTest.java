/** The boundary cases that promises 1 to 8 name: a new court, what is told of it, and what is done by hand. */
public final class BoundaryByHandTest {
    private static final int LEAST = Run.LEAST;
    private static final int MOST = Run.MOST;

    public static void main(String[] args) throws Exception { Cases.runAll(BoundaryByHandTest.class, 1, 8); }

    // Promise 1: a new object.

    static void p01_noEaters() {
        Run r = new Run().due(0, "about", 0);
        for (int what = 0; what <= 7; what++) r.due(-2, "of", 0, what);
        for (int side = 0; side <= 2; side++) r.idle(false, "sit", 0, side);
        for (int kind = 0; kind <= 1; kind++) r.idle(-1, "spoon", 0, kind);
        r.idle(-2, "tell", 0, 1).due(-1, "inWhoseName", 0).due(-9999, "called", 1, 0, -1).due(-1, "hired", 1).due(0, "liars");
    }

    static void p01_emptyPots() {
        Run r = new Run().due(10000, "about", 1);
        for (int pot = 0; pot < 4; pot++) {
            r.due(0, "about", 10 + pot).due(1, "sets", pot / 2, pot % 2, 0, -1).due(0, "sets", pot / 2, pot % 2, 1, -1);
        }
        r.due(0, "flies", 40).due(10000, "about", 1);
    }

    static void p01_xIs3() { new Run().due(3, "about", 3); }

    static void p01_nothingIsDoneOrToldYet() {
        Run r = new Run().due(0, "about", 2).due(0, "about", 4).due(-1, "about", 5);
        for (int what = 6; what <= 9; what++) r.due(0, "about", what);
        r.due(0, "written", -1, 0).due(0, "dent", -1, 0).due(1023, "fits").due(-1, "contrary").due(-1, "fault", 0).due(-1, "fault", 1).idle(-1, "undo");
    }

    static void p01_theImageIsThisAtOnce() { new Run().idle(0, "back"); }

    static void p01_theImageIsThisBehindChanges() {
        Run r = Run.pots(1, 2, 3, 4).seated(1, 2, 3, 1).due(2, "spoon", 0, 0).due(0, "judge", 1).due(3, "flies", 3).due(true, "seed", 7);
        r.due(1, "tested", 0, 0).due(1, "tell", 0, 5).due(0, "text").due(true, "by", 0);
        r.due(0, "back");
        for (int what = 0; what <= 13; what++) r.due(new int[] {0, 10000, 0, 3, 0, -1, 0, 0, 0, 0, 0, 0, 0, 0}[what], "about", what);
        r.due(1023, "fits").due(-1, "undo").due(false, "by", 0).due(0, "eater", 0, 1, 0).due(2, "of", 0, 3).due(0, "of", 0, 4).due(0, "liars");
    }

    // Promise 2: pot.

    static void p02_sideBelow0() { new Run().idle(false, "pot", -1, 0, 1).idle(false, "pot", LEAST, 0, 1).due(true, "pot", 0, 0, 1).due(1, "about", 10); }

    static void p02_sideAbove1() { new Run().due(true, "pot", 1, 0, 1).due(1, "about", 12).idle(false, "pot", 2, 0, 7).idle(false, "pot", MOST, 0, 7); }

    static void p02_kindBelow0() { new Run().idle(false, "pot", 1, -1, 1).idle(false, "pot", 1, LEAST, 1).due(true, "pot", 1, 0, 1).due(1, "about", 12); }

    static void p02_kindAbove1() { new Run().due(true, "pot", 0, 1, 1).due(1, "about", 11).idle(false, "pot", 0, 2, 7).idle(false, "pot", 0, MOST, 7); }

    static void p02_grainsBelow0() {
        Run r = new Run().due(true, "pot", 0, 0, 1).due(1, "about", 10).due(true, "pot", 0, 0, 0).due(0, "about", 10);
        r.due(true, "pot", 0, 0, 5).idle(false, "pot", 0, 0, -1).idle(false, "pot", 0, 0, LEAST).due(5, "about", 10);
    }

    static void p02_grainsAbove999() {
        Run r = new Run().due(true, "pot", 1, 1, 998).due(998, "about", 13).due(true, "pot", 1, 1, 999).due(999, "about", 13);
        r.idle(false, "pot", 1, 1, 1000).idle(false, "pot", 1, 1, MOST).due(999, "about", 13);
    }

    static void p02_asItIsAlready() { new Run().due(true, "pot", 0, 0, 999).idle(true, "pot", 0, 0, 999).due(true, "pot", 0, 1, 0); }

    static void p02_onePotAlone() {
        for (int pot = 0; pot < 4; pot++) {
            Run r = new Run().due(true, "pot", pot / 2, pot % 2, 999);
            for (int p = 0; p < 4; p++) r.due(p == pot ? 999 : 0, "about", 10 + p);
        }
    }

    static void p02_isNoStep() { new Run().due(true, "pot", 0, 0, 999).due(0, "about", 6).due(-1, "undo").due(999, "about", 10); }

    // Promise 3: eater.

    static void p03_hungerBelow0() { new Run().idle(-1, "eater", -1, 1, 0).idle(-1, "eater", LEAST, 1, 0).due(0, "eater", 0, 1, 0).due(0, "of", 0, 0); }

    static void p03_hungerAbove9() { new Run().due(0, "eater", 9, 1, 0).due(9, "of", 0, 0).idle(-1, "eater", 10, 1, 0).idle(-1, "eater", MOST, 1, 0); }

    static void p03_stomachsBelow1() {
        new Run().idle(-1, "eater", 0, 0, 0).idle(-1, "eater", 0, -1, 0).idle(-1, "eater", 0, LEAST, 0).due(0, "eater", 0, 1, 0).due(1, "of", 0, 1).due(20, "of", 0, 5);
    }

    static void p03_stomachsAbove9() {
        new Run().due(0, "eater", 0, 9, 0).due(9, "of", 0, 1).due(180, "of", 0, 5).idle(-1, "eater", 0, 10, 0).idle(-1, "eater", 0, MOST, 0);
    }

    static void p03_priceBelow0() { new Run().idle(-1, "eater", 0, 1, -1).idle(-1, "eater", 0, 1, LEAST).due(0, "eater", 0, 1, 0).due(0, "of", 0, 2); }

    static void p03_priceAbove99() { new Run().due(0, "eater", 0, 1, 99).due(99, "of", 0, 2).idle(-1, "eater", 0, 1, 100).idle(-1, "eater", 0, 1, MOST); }

    static void p03_nineAndATenth() {
        Run r = new Run();
        for (int e = 0; e < 9; e++) r.due(e, "eater", e, 9 - e, 90 + e).due(e + 1, "about", 0);
        r.idle(-1, "eater", 1, 1, 1).idle(-1, "eater", 10, 1, 1).due(9, "about", 0).due(8, "of", 8, 0).due(1, "of", 8, 1).due(98, "of", 8, 2).due(-2, "of", 9, 0);
    }

    static void p03_refusedTakesNoNumber() { new Run().due(0, "eater", 1, 1, 1).due(-1, "eater", 10, 1, 1).due(-1, "eater", 1, 0, 1).due(1, "eater", 2, 2, 2).due(2, "about", 0); }

    static void p03_atFirstAwayAndEatenNothing() { new Run().due(0, "eater", 9, 9, 99).due(2, "of", 0, 3).due(0, "of", 0, 4); }

    static void p03_roomAgainBehindBack() {
        Run r = new Run();
        for (int e = 0; e < 8; e++) r.due(e, "eater", 1, 1, 1);
        r.due(0, "image").due(8, "eater", 5, 5, 5).due(true, "sit", 8, 1).due(-1, "eater", 1, 1, 1).due(0, "back");
        r.due(-2, "of", 8, 0).due(8, "eater", 2, 3, 4).due(2, "of", 8, 0).due(2, "of", 8, 3).due(-1, "eater", 1, 1, 1);
    }

    static void p03_isNoStepAndStaysBehindUndo() {
        new Run().due(0, "judge", 0).due(0, "eater", 3, 4, 5).due(1, "about", 6).due(0, "undo").due(1, "about", 0).due(3, "of", 0, 0).due(2, "of", 0, 3).due(-1, "undo");
    }

    // Promise 4: seed.

    static void p04_seedBelow0() { new Run().due(true, "seed", 1).due(8, "about", 3).due(true, "seed", 0).due(3, "about", 3).idle(false, "seed", -1).idle(false, "seed", LEAST); }

    static void p04_seedAbove9999() {
        new Run().due(true, "seed", 9998).due(49993, "about", 3).due(true, "seed", 9999).due(49998, "about", 3).idle(false, "seed", 10000).idle(false, "seed", MOST).due(49998, "about", 3);
    }

    /** X of the greatest SEED is above 30029: it is cut by the draw alone. */
    static void p04_aDrawOfTheGreatestX() {
        Run.pots(1, 1, 1, 1).due(true, "seed", 9999).due(1, "flies", 1).due(0, "about", 12).due(11010, "about", 3);
    }

    /** X just below, and just above, what a draw leaves at most. */
    static void p04_xAboutTheGreatestOfADraw() {
        new Run().due(true, "seed", 6005).due(30028, "about", 3).due(0, "flies", 1).due(29949, "about", 3);
        new Run().due(true, "seed", 6006).due(30033, "about", 3).due(0, "flies", 1).due((30033 * 181 + 101) % 30029, "about", 3);
    }

    static void p04_isNoStep() { new Run().due(true, "seed", 5).due(0, "about", 6).due(-1, "undo").due(28, "about", 3); }

    // Promise 5: sit.

    static void p05_sideBelow0() { new Run().due(0, "eater", 0, 1, 0).idle(false, "sit", 0, -1).idle(false, "sit", 0, LEAST).due(true, "sit", 0, 0).due(0, "of", 0, 3); }

    static void p05_sideAbove2() {
        Run r = new Run().due(0, "eater", 0, 1, 0).due(true, "sit", 0, 1).due(1, "of", 0, 3).due(true, "sit", 0, 2).due(2, "of", 0, 3);
        r.idle(false, "sit", 0, 3).idle(false, "sit", 0, MOST);
    }

    static void p05_eaterBelow0() { new Run().due(0, "eater", 0, 1, 0).idle(false, "sit", -1, 0).idle(false, "sit", LEAST, 0).due(true, "sit", 0, 0); }

    static void p05_eaterWhoIsNotThere() {
        Run r = new Run().idle(false, "sit", 0, 0);
        for (int e = 0; e < 9; e++) r.due(e, "eater", 0, 1, 0).due(true, "sit", e, 1).idle(false, "sit", e + 1, 1);
        r.idle(false, "sit", MOST, 1);
    }

    static void p05_soAlready() {
        Run r = new Run().due(0, "eater", 0, 1, 0).idle(false, "sit", 0, 2);
        for (int side : new int[] {0, 1, 2, 1, 0, 2}) r.due(true, "sit", 0, side).idle(false, "sit", 0, side);
        r.due(6, "about", 6);
    }

    static void p05_soAlreadyForOneAlone() { new Run().seated(0, 1, 0, 1).due(1, "eater", 0, 1, 0).idle(false, "sit", 0, 1).due(true, "sit", 1, 1); }

    // Promise 6: spoon.

    static void p06_kindBelow0() { Run.pots(9, 9, 9, 9).seated(1, 1, 0, 0).idle(-1, "spoon", 0, -1).idle(-1, "spoon", 0, LEAST).due(2, "spoon", 0, 0).due(7, "about", 10); }

    static void p06_kindAbove1() { Run.pots(9, 9, 9, 9).seated(1, 1, 0, 0).due(2, "spoon", 0, 1).due(7, "about", 11).idle(-1, "spoon", 0, 2).idle(-1, "spoon", 0, MOST); }

    static void p06_eaterBelow0() { Run.pots(9, 9, 9, 9).seated(1, 1, 0, 0).idle(-1, "spoon", -1, 0).idle(-1, "spoon", LEAST, 0).due(2, "spoon", 0, 0); }

    static void p06_eaterWhoIsNotThere() {
        Run r = Run.pots(99, 0, 0, 0).idle(-1, "spoon", 0, 0);
        for (int e = 0; e < 9; e++) r.seated(e, 1, 0, 0).due(e + 1, "spoon", e, 0).idle(-1, "spoon", e + 1, 0);
        r.idle(-1, "spoon", MOST, 0);
    }

    static void p06_away() {
        Run r = Run.pots(9, 9, 9, 9).due(0, "eater", 1, 1, 0).idle(-1, "spoon", 0, 0).idle(-1, "spoon", 0, 1);
        r.due(true, "sit", 0, 1).due(2, "spoon", 0, 0).due(7, "about", 12).due(true, "sit", 0, 2).idle(-1, "spoon", 0, 0).idle(-1, "spoon", 0, 1);
    }

    static void p06_hunger0And9() {
        new Run().due(true, "pot", 0, 0, 99).seated(0, 9, 0, 0).seated(9, 9, 0, 0).due(1, "spoon", 0, 0).due(10, "spoon", 1, 0).due(88, "about", 10);
    }

    static void p06_noMoreThanIsLeft() {
        int[][] cases = {{4, 4, 0}, {5, 5, 0}, {6, 5, 1}, {1, 1, 0}};
        for (int[] c : cases) new Run().due(true, "pot", 1, 1, c[0]).seated(4, 9, 0, 1).due(c[1], "spoon", 0, 1).due(c[2], "about", 13).due(c[1], "of", 0, 4).due(c[1], "written", 0, 3);
    }

    static void p06_nothingIsLeft() {
        new Run().due(true, "pot", 1, 1, 6).seated(4, 9, 0, 1).due(5, "spoon", 0, 1).due(1, "spoon", 0, 1).idle(-1, "spoon", 0, 1).due(0, "about", 13);
    }

    static void p06_otherPotsDontCount() {
        for (int pot = 0; pot < 4; pot++) {
            Run r = Run.pots(999, 999, 999, 999).due(true, "pot", pot / 2, pot % 2, 0).seated(4, 9, 0, pot / 2);
            r.idle(-1, "spoon", 0, pot % 2).due(5, "spoon", 0, 1 - pot % 2);
        }
    }

    static void p06_noMoreThanItHolds() {
        new Run().due(true, "pot", 0, 0, 99).seated(8, 1, 0, 0).due(9, "spoon", 0, 0).due(9, "spoon", 0, 0).due(2, "spoon", 0, 0).idle(-1, "spoon", 0, 0).due(20, "of", 0, 4).due(79, "about", 10);
        new Run().due(true, "pot", 0, 0, 99).seated(9, 1, 0, 0).due(10, "spoon", 0, 0).due(10, "spoon", 0, 0).idle(-1, "spoon", 0, 0);
        Run one = new Run().due(true, "pot", 0, 0, 99).seated(0, 1, 0, 0);
        for (int i = 1; i <= 20; i++) one.due(1, "spoon", 0, 0).due(20 - i, "of", 0, 5);
        one.idle(-1, "spoon", 0, 0);
    }

    static void p06_leftAndHeldAtOnce() {
        Run r = new Run().due(true, "pot", 0, 0, 18).seated(8, 1, 0, 0).due(9, "spoon", 0, 0).due(9, "spoon", 0, 0).due(true, "pot", 0, 0, 1);
        r.due(1, "spoon", 0, 0).due(true, "pot", 0, 0, 3).due(1, "spoon", 0, 0).idle(-1, "spoon", 0, 0);
    }

    static void p06_eatsAtLeast0() {
        int[][] cases = {{-9999, -1}, {-1, -1}, {0, -1}, {1, 1}, {2, 2}};
        for (int[] c : cases) {
            Run r = Run.pots(99, 99, 0, 0).seated(4, 9, 0, 0).ruledBy("eats " + (c[0] < 0 ? "-" : "") + Math.abs(c[0]) + ";");
            if (c[1] < 0) r.idle(-1, "spoon", 0, 0);
            else r.due(c[1], "spoon", 0, 0);
        }
    }

    static void p06_eatsAtMost99() {
        int[][] cases = {{98, 98}, {99, 99}, {100, 99}, {9999, 99}};
        for (int[] c : cases) Run.pots(500, 0, 0, 0).seated(4, 9, 0, 0).ruledBy("eats " + c[0] + ";").due(c[1], "spoon", 0, 0).due(500 - c[1], "about", 10);
        Run.pots(500, 0, 0, 0).seated(4, 9, 0, 0).ruledBy("eats 9999*9999;").due(99, "spoon", 0, 0);
    }

    static void p06_holdsAtLeast0() {
        int[][] cases = {{-9999, -1}, {-1, -1}, {0, -1}, {1, 1}, {4, 4}, {5, 5}, {6, 5}};
        for (int[] c : cases) {
            Run r = Run.pots(99, 99, 0, 0).seated(4, 9, 0, 0).ruledBy("holds " + (c[0] < 0 ? "-" : "") + Math.abs(c[0]) + ";");
            if (c[1] < 0) r.idle(-1, "spoon", 0, 0);
            else r.due(c[1], "spoon", 0, 0);
        }
    }

    /** holds less EATEN is 0 at least, also where a law comes by which it holds less than was EATEN. */
    static void p06_holdsLessThanWasEaten() {
        Run r = Run.pots(99, 99, 0, 0).seated(4, 9, 0, 0).due(5, "spoon", 0, 0).ruledBy("holds 4;").due(0, "of", 0, 5).idle(-1, "spoon", 0, 0);
        r.ruledBy("holds 5;").due(0, "of", 0, 5).idle(-1, "spoon", 0, 0).ruledBy("holds 6;").due(1, "of", 0, 5).due(1, "spoon", 0, 0);
    }

    static void p06_aFullPotTillItIsEmpty() {
        Run r = new Run().due(true, "pot", 1, 0, 999).seated(0, 1, 0, 1).ruledBy("eats 99;holds 9999;");
        for (int i = 1; i <= 10; i++) r.due(99, "spoon", 0, 0).due(999 - 99 * i, "about", 12);
        r.due(9, "spoon", 0, 0).idle(-1, "spoon", 0, 0).due(999, "of", 0, 4).due(9000, "of", 0, 5);
    }

    /** What the NAMES of eats are at their least, where nothing is eaten, and next to it. */
    static void p06_namesOfEatsAtTheirLeast() {
        Run.pots(9, 9, 9, 9).seated(0, 9, 0, 0).ruledBy("eats spoons;").idle(-1, "spoon", 0, 0).due(true, "by", -1).due(1, "spoon", 0, 0).due(true, "by", 0).due(1, "spoon", 0, 0).due(2, "spoon", 0, 0);
        Run.pots(9, 9, 9, 9).seated(0, 9, 0, 0).ruledBy("eats eaten;").idle(-1, "spoon", 0, 0).due(true, "by", -1).due(1, "spoon", 0, 0).due(true, "by", 0).due(1, "spoon", 0, 0).due(2, "spoon", 0, 0);
        Run.pots(9, 9, 9, 9).seated(0, 9, 0, 0).ruledBy("eats kind;").idle(-1, "spoon", 0, 0).due(1, "spoon", 0, 1);
        Run.pots(9, 9, 9, 9).seated(0, 9, 0, 0).seated(0, 9, 0, 1).ruledBy("eats side;").idle(-1, "spoon", 0, 0).due(1, "spoon", 1, 0);
        Run.pots(9, 9, 9, 9).seated(0, 9, 0, 0).seated(0, 9, 0, 0).ruledBy("eats eater;").idle(-1, "spoon", 0, 0).due(1, "spoon", 1, 0);
        Run.pots(9, 9, 9, 9).seated(0, 9, 0, 0).seated(1, 9, 0, 0).ruledBy("eats hunger;").idle(-1, "spoon", 0, 0).due(1, "spoon", 1, 0);
        Run.pots(9, 9, 9, 9).seated(0, 1, 0, 0).seated(0, 9, 0, 0).ruledBy("eats stomachs-1;").idle(-1, "spoon", 0, 0).due(8, "spoon", 1, 0);
        Run.pots(1, 2, 9, 9).seated(0, 9, 0, 0).ruledBy("eats left-1;").idle(-1, "spoon", 0, 0).due(1, "spoon", 0, 1).idle(-1, "spoon", 0, 1);
    }

    /** spoons counts those of all, left the POT that is eaten out of. */
    static void p06_namesOfEatsAtTheirMost() {
        Run r = Run.pots(999, 98, 100, 99).seated(0, 9, 0, 0).seated(9, 9, 0, 1).ruledBy("eats left;holds 9999;").due(99, "of", 0, 6).due(98, "of", 0, 7).due(99, "of", 1, 6).due(99, "of", 1, 7);
        r.ruledBy("eats spoons+1;holds 9999;").due(1, "spoon", 0, 0).due(2, "spoon", 1, 1).due(3, "spoon", 0, 1).due(4, "spoon", 1, 0);
        Run s = Run.pots(999, 0, 0, 0).seated(0, 9, 0, 0);
        for (int i = 0; i < 59; i++) s.due(1, "spoon", 0, 0);
        s.ruledBy("eats spoons;holds 9999;").due(59, "spoon", 0, 0);
    }

    static void p06_withoutEatsOrHolds() {
        Run r = Run.pots(99, 99, 0, 0).seated(3, 1, 0, 0).ruledBy("holds 6;").due(4, "spoon", 0, 0).due(2, "spoon", 0, 0).idle(-1, "spoon", 0, 0);
        r.ruledBy("eats 13;").due(13, "spoon", 0, 0).due(1, "spoon", 0, 0).idle(-1, "spoon", 0, 0);
        Run.pots(99, 99, 0, 0).seated(3, 1, 0, 0).ruledBy("guilty 1=1;").due(4, "spoon", 0, 0).due(16, "of", 0, 5);
    }

    static void p06_sixtyAndASixtyFirst() {
        Run r = new Run().due(true, "pot", 0, 0, 999).seated(0, 9, 0, 0);
        for (int i = 1; i <= 60; i++) r.due(1, "spoon", 0, 0).due(i, "written", -1, 0);
        r.idle(-1, "spoon", 0, 0).due(60, "written", -1, 0).due(60, "of", 0, 4).due(939, "about", 10);
        r.due(29, "undo").due(59, "written", -1, 0).due(1, "spoon", 0, 0).idle(-1, "spoon", 0, 0);
    }

    // Promise 7: judge.

    static void p07_sideBelow0() { new Run().idle(-1, "judge", -1).idle(-1, "judge", LEAST).due(0, "judge", 0).due(0, "dent", 0, 0); }

    static void p07_sideAbove1() { new Run().due(0, "judge", 1).due(1, "dent", 0, 0).idle(-1, "judge", 2).idle(-1, "judge", MOST).due(1, "about", 2); }

    static void p07_tiltAbout0() {
        int[][] cases = {{0, 1, 1, 0}, {0, 0, 0, 0}, {1, 0, 0, 1}, {0, 999, 1, 0}, {999, 0, 0, 1}, {998, 999, 1, 0}, {999, 998, 0, 1}};
        for (int[] c : cases) Run.pots(c[0], 0, 0, c[1]).due(c[2], "judge", 0).due(c[3], "judge", 1);
    }

    static void p07_tiltAtItsMost() {
        Run.pots(999, 999, 0, 0).due(0, "judge", 0).due(1, "judge", 1).due(1998, "dent", 0, 1);
        Run.pots(0, 0, 999, 999).due(1, "judge", 0).due(0, "judge", 1).due(-1998, "dent", 1, 1);
    }

    static void p07_thirtyDentsAndAThirtyFirst() {
        Run r = new Run();
        for (int i = 1; i <= 30; i++) r.due(0, "judge", i % 2).due(i, "about", 2);
        r.idle(-1, "judge", 0).idle(-1, "judge", 1).due(30, "about", 2).due(29, "undo").due(0, "judge", 0).idle(-1, "judge", 0);
    }

    /** dents are those so far: 0 at the first verdict, 29 at the last that can be. */
    static void p07_dentsInALaw() {
        Run r = new Run().ruledBy("guilty dents=0 or dents=29 or dents>29;").due(1, "judge", 0);
        for (int i = 1; i <= 28; i++) r.due(0, "judge", 0);
        r.due(1, "judge", 0).idle(-1, "judge", 0);
    }

    static void p07_namesOfGuiltyAtTheirMost() {
        Run r = Run.pots(999, 0, 0, 999).ruledBy("guilty honey=999 and salt=0 and side=0 or honey=0 and salt=999 and side=1;").due(1, "judge", 0).due(1, "judge", 1);
        r.due(true, "pot", 0, 0, 998).due(true, "pot", 1, 1, 998).due(0, "judge", 0).due(0, "judge", 1);
        Run.pots(999, 999, 0, 0).ruledBy("guilty tilt=1998;").due(1, "judge", 0).due(1, "judge", 1);
        Run.pots(0, 0, 999, 999).ruledBy("guilty tilt=-1998;").due(1, "judge", 0).due(1, "judge", 1);
    }

    static void p07_withoutGuilty() {
        Run.pots(0, 0, 1, 0).ruledBy("eats 1;holds 1;").due(1, "judge", 0).due(0, "judge", 1).due(true, "pot", 1, 0, 0).due(0, "judge", 0).due(true, "pot", 0, 0, 1).due(0, "judge", 0).due(1, "judge", 1);
        Run.pots(0, 0, 1, 0).due(0, "text").due(true, "by", 0).due(1, "judge", 0);
    }

    static void p07_comparisonsAboutLikeOnes() {
        String[] signs = {"<", "<=", ">", ">=", "=", "#"};
        String[] due = {"100", "110", "001", "011", "010", "101"};
        for (int s = 0; s < signs.length; s++) {
            for (int a = 4; a <= 6; a++) Run.dueVerdict(due[s].charAt(a - 4) == '1', a + signs[s] + "5");
        }
    }

    static void p07_aboveAMillion() {
        // 9999*100 is 999900.
        Run.dueVerdict(false, "9999*100+99=9999*100+100");
        Run.dueAlike("999*1001", "1000*1000-1");
        for (String sum : new String[] {"9999*100+100", "9999*100+101", "1000*1001", "9999*9999", "1000*1000--1", "9999*9999*9999*9999"}) Run.dueAlike(sum, "1000*1000");
    }

    static void p07_belowAMillionLess() {
        Run.dueVerdict(false, "-9999*100-99=-9999*100-100");
        Run.dueAlike("-999*1001", "-1000*1000+1");
        for (String sum : new String[] {"-9999*100-100", "-9999*100-101", "-1000*1001", "-9999*9999", "-1000*1000+-1", "-(9999*9999)*9999"}) Run.dueAlike(sum, "-1000*1000");
        Run.dueAlike("-1000*1000*-1000", "1000*1000");
    }

    /** What is above a million is a million at each step, not at the end alone. */
    static void p07_aMillionAtEachStep() {
        Run.dueAlike("1000*1000+5-5", "1000*1000-5");
        Run.dueAlike("-1000*1000-5+5", "-1000*1000+5");
        Run.dueAlike("1000*2000/2", "1000*500");
        Run.dueAlike("-1000*2000/2", "-1000*500");
        Run.dueAlike("1000*2000-1000*1000", "0");
        Run.dueAlike("(1000*1000+1)*1-1", "999*1001");
    }

    static void p07_dividedBy0() {
        for (String sum : new String[] {"5/0", "0/0", "-5/0", "9999*9999/0", "5/(1-1)", "5/-0"}) Run.dueAlike(sum, "0");
        Run.dueAlike("5/0+3", "3");
        Run.dueAlike("5/1", "5");
        Run.dueAlike("5/-1", "-5");
    }

    static void p07_cutsTowards0() {
        String[][] sums = {{"1/2", "0"}, {"-1/2", "0"}, {"1/-2", "0"}, {"7/2", "3"}, {"-7/2", "-3"}, {"7/-2", "-3"}, {"-7/-2", "3"}, {"6/2", "3"}, {"5/2", "2"}, {"-(7/2)", "-3"}, {"1999/2000", "0"}, {"-1999/2000", "0"}, {"2000/2000", "1"},
            {"-2000/2000", "-1"}};
        for (String[] sum : sums) Run.dueAlike(sum[0], sum[1]);
    }

    static void p07_fromTheLeft() {
        String[][] sums = {{"9-3-2", "4"}, {"9-(3-2)", "8"}, {"9-3+2", "8"}, {"64/8/2", "4"}, {"64/(8/2)", "16"}, {"7/2*2", "6"}, {"2*7/2", "7"}, {"1+2*3", "7"}, {"(1+2)*3", "9"}, {"3*(1+2)", "9"}, {"((1+2)*(3+4))", "21"}, {"-2*3", "-6"}, {"--2", "2"},
            {"1--2", "3"}, {"-(1+2)", "-3"}, {"-1+2", "1"}};
        for (String[] sum : sums) Run.dueAlike(sum[0], sum[1]);
    }

    static void p07_orAndAndNot() {
        String[] yes = {"1=1 or 1=1", "1=1 or 1=2", "1=2 or 1=1", "1=1 and 1=1", "not 1=2", "not not 1=1", "1=1 or 1=2 and 1=2", "1=2 and 1=2 or 1=1", "not 1=2 and 1=1", "not 1=1 or 1=1", "1=1 or 1=1 and 1=2"};
        String[] no = {"1=2 or 1=2", "1=1 and 1=2", "1=2 and 1=1", "1=2 and 1=2", "not 1=1", "not not 1=2", "1=2 or 1=1 and 1=2", "not 1=2 and 1=2", "not 1=1 or 1=2", "not 1=1 and 1=1"};
        for (String s : yes) Run.dueVerdict(true, s);
        for (String s : no) Run.dueVerdict(false, s);
        for (String so : new String[] {"1<2", "1<=1", "2>1", "1>=1", "1=1", "1#2"}) {
            for (String too : new String[] {"1<2", "2<=2", "2>1", "2>=2", "2=2", "1#2"}) Run.dueVerdict(true, so + " and " + too);
            Run.dueVerdict(false, "not " + so);
            Run.dueVerdict(true, "not not " + so);
        }
    }

    // Promise 8: flies.

    static void p08_nBelow1() { Run.pots(9, 9, 9, 9).idle(-1, "flies", 0).idle(-1, "flies", -1).idle(-1, "flies", LEAST).due(1, "flies", 1).due(8, "about", 13); }

    static void p08_nAbove40() {
        Run r = Run.pots(99, 99, 99, 99).due(39, "flies", 39).due(40, "flies", 40).idle(-1, "flies", 41).idle(-1, "flies", MOST);
        for (int pot = 0; pot < 4; pot++) r.due(new int[] {79, 77, 82, 79}[pot], "about", 10 + pot);
    }

    static void p08_emptyPots() { new Run().due(0, "flies", 1).due(644, "about", 3).due(0, "flies", 40).due(0, "about", 10).due(0, "about", 13).due(2, "about", 6); }

    static void p08_theLastGrainOfAPot() {
        // X is 3, and 23 by the seed 4: both draw SIDE 1 SALT.
        Run.pots(0, 0, 0, 2).due(1, "flies", 1).due(1, "about", 13).due(true, "seed", 4).due(1, "flies", 1).due(0, "about", 13).due(true, "seed", 4).due(0, "flies", 1).due(0, "about", 13);
    }

    static void p08_eachPot() {
        int[] potOfSeed = {3, 0, 1, 2};
        for (int seed = 0; seed < 4; seed++) {
            Run r = Run.pots(5, 5, 5, 5).due(true, "seed", seed).due(1, "flies", 1);
            for (int pot = 0; pot < 4; pot++) r.due(pot == potOfSeed[seed] ? 4 : 5, "about", 10 + pot);
        }
    }

    static void p08_xWrapsAround() {
        int[][] seedAndX = {{32, 29604}, {33, 480}, {862, 0}, {5806, 30028}};
        for (int[] c : seedAndX) new Run().due(true, "seed", c[0]).due(0, "flies", 1).due(c[1], "about", 3);
    }

    static void p08_drawsByTheLeastAndTheMostX() {
        Run.pots(5, 5, 5, 5).due(true, "seed", 862).due(1, "flies", 1).due(0, "about", 3).due(4, "about", 11).due(1, "flies", 1).due(4, "about", 10).due(101, "about", 3);
        Run.pots(5, 5, 5, 5).due(true, "seed", 5806).due(1, "flies", 1).due(30028, "about", 3).due(4, "about", 11).due(1, "flies", 1).due(4, "about", 10).due(29949, "about", 3);
    }

    static void p08_aStepThoughNoneIsGone() { new Run().due(0, "flies", 1).due(1, "about", 6).due(0, "undo").due(3, "about", 3).due(-1, "undo"); }

    static void p08_oneStepForAll() { Run.pots(99, 99, 99, 99).due(40, "flies", 40).due(1, "about", 6).due(0, "undo").due(99, "about", 10).due(99, "about", 11).due(99, "about", 12).due(99, "about", 13).due(3, "about", 3); }
}
