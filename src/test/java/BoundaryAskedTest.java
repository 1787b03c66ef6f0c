import java.util.Arrays;
import java.util.Random;

/** The boundary cases that promises 16 to 21 name: what is asked of eaters, spoons, dents, orders, acquittals and sets. */
public final class BoundaryAskedTest {
    private static final int LEAST = Run.LEAST;
    private static final int MOST = Run.MOST;

    public static void main(String[] args) throws Exception { Cases.runAll(BoundaryAskedTest.class, 16, 21); }

    /** Nine EATERS of HUNGER 0 at SIDE 0. */
    private static Run nineSeated(int honey) {
        Run r = new Run().due(true, "pot", 0, 0, honey);
        for (int e = 0; e < 9; e++) r.seated(0, 9, 0, 0);
        return r;
    }

    // Promise 16: of.

    static void p16_eaterBelow0() { new Run().due(0, "eater", 7, 1, 0).due(7, "of", 0, 0).idle(-2, "of", -1, 0).idle(-2, "of", -2, 0).idle(-2, "of", LEAST, 0); }

    static void p16_eaterWhoIsNotThere() {
        Run r = new Run().due(-2, "of", 0, 0);
        for (int e = 0; e < 9; e++) r.due(e, "eater", 9 - e, 1, 0).due(9 - e, "of", e, 0).idle(-2, "of", e + 1, 0);
        r.due(-2, "of", MOST, 0);
    }

    static void p16_whatBelow0() { new Run().due(0, "eater", 7, 1, 0).due(7, "of", 0, 0).idle(-2, "of", 0, -1).idle(-2, "of", 0, LEAST); }

    static void p16_whatAbove7() { Run.pots(9, 5, 9, 9).seated(7, 1, 0, 0).due(8, "of", 0, 6).due(5, "of", 0, 7).idle(-2, "of", 0, 8).idle(-2, "of", 0, MOST); }

    static void p16_whereFrom0To2() { new Run().due(0, "eater", 0, 1, 0).due(2, "of", 0, 3).due(true, "sit", 0, 0).due(0, "of", 0, 3).due(true, "sit", 0, 1).due(1, "of", 0, 3).due(true, "sit", 0, 2).due(2, "of", 0, 3); }

    static void p16_holdsWithoutALaw() { new Run().due(0, "eater", 0, 1, 0).due(1, "eater", 0, 9, 0).due(20, "of", 0, 5).due(180, "of", 1, 5); }

    static void p16_holdsAtLeast0() {
        Run r = Run.pots(9, 0, 0, 0).seated(4, 1, 0, 0).ruledBy("holds -1;").due(0, "of", 0, 5).ruledBy("holds 0;").due(0, "of", 0, 5).ruledBy("holds 1;").due(1, "of", 0, 5);
        r.due(1, "spoon", 0, 0).due(0, "of", 0, 5).due(true, "by", 1).due(0, "of", 0, 5).due(true, "by", 0).due(0, "of", 0, 5).due(true, "by", -1).due(19, "of", 0, 5);
    }

    /** What is below 0 is 0 ahead of what was EATEN being taken from it, and then again. */
    static void p16_stillHoldsAtLeast0() {
        Run r = Run.pots(99, 0, 0, 0).seated(9, 1, 0, 0).due(10, "spoon", 0, 0);
        r.ruledBy("holds 9;").due(0, "of", 0, 5).ruledBy("holds 10;").due(0, "of", 0, 5).ruledBy("holds 11;").due(1, "of", 0, 5).ruledBy("holds -9999;").due(0, "of", 0, 5);
    }

    static void p16_holdsAtMost9999() {
        Run r = Run.pots(99, 0, 0, 0).seated(0, 1, 0, 0).ruledBy("holds 9998;").due(9998, "of", 0, 5).ruledBy("holds 9999;").due(9999, "of", 0, 5).ruledBy("holds 9999+1;").due(9999, "of", 0, 5);
        r.ruledBy("holds 9999*9999;").due(9999, "of", 0, 5).due(1, "spoon", 0, 0).due(9998, "of", 0, 5).due(true, "by", 2).due(9998, "of", 0, 5).due(true, "by", 0).due(9997, "of", 0, 5);
    }

    static void p16_namesOfHolds() {
        Run r = Run.pots(99, 0, 0, 0).seated(0, 1, 0, 0).seated(9, 9, 99, 0).ruledBy("holds eater*1000+hunger*100+stomachs*10;").due(10, "of", 0, 5).due(1990, "of", 1, 5);
        r.ruledBy("holds eaten*2;").due(0, "of", 1, 5).due(true, "by", -1).due(10, "spoon", 1, 0).due(true, "by", 1).due(10, "of", 1, 5).due(0, "of", 0, 5);
    }

    static void p16_aSpoonOfOneWhoIsAway() { Run.pots(9, 9, 9, 9).due(0, "eater", 0, 1, 0).due(0, "of", 0, 6).due(0, "of", 0, 7).due(true, "sit", 0, 0).due(1, "of", 0, 6).due(1, "of", 0, 7).due(true, "sit", 0, 2).due(0, "of", 0, 6).due(0, "of", 0, 7); }

    static void p16_aSpoonOutOfAnEmptyPot() {
        Run r = Run.pots(1, 0, 0, 1).seated(4, 1, 0, 0).seated(4, 1, 0, 1);
        r.due(1, "of", 0, 6).due(0, "of", 0, 7).due(0, "of", 1, 6).due(1, "of", 1, 7).due(1, "spoon", 0, 0).due(0, "of", 0, 6).due(1, "spoon", 1, 1).due(0, "of", 1, 7);
    }

    static void p16_aSpoonOfOneWhoIsFull() {
        Run.pots(99, 99, 0, 0).seated(9, 1, 0, 0).due(10, "of", 0, 6).due(10, "spoon", 0, 0).due(10, "of", 0, 7).due(10, "spoon", 0, 1).due(0, "of", 0, 5).due(0, "of", 0, 6).due(0, "of", 0, 7);
    }

    static void p16_aSpoonByALawOf0And99() {
        Run r = Run.pots(500, 500, 0, 0).seated(9, 9, 0, 0).ruledBy("eats kind;").due(0, "of", 0, 6).due(1, "of", 0, 7).ruledBy("eats -kind;").due(0, "of", 0, 6).due(0, "of", 0, 7);
        r.ruledBy("eats 99+kind;").due(99, "of", 0, 6).due(99, "of", 0, 7).ruledBy("eats 98+kind;").due(98, "of", 0, 6).due(99, "of", 0, 7);
    }

    static void p16_changesNothing() {
        Run r = Run.pots(9, 9, 9, 9).seated(1, 2, 3, 0).due(2, "spoon", 0, 0);
        for (int what = 0; what <= 7; what++) r.idle(new int[] {1, 2, 3, 0, 2, 38, 2, 2}[what], "of", 0, what);
    }

    // Promise 17: written.

    static void p17_noSpoons() { new Run().due(0, "written", -1, 0).due(-2, "written", 0, 0).due(-2, "written", -2, 0); }

    static void p17_iBelowNone() { Run.pots(9, 0, 0, 0).seated(0, 1, 0, 0).due(1, "spoon", 0, 0).idle(1, "written", -1, 0).idle(-2, "written", -2, 0).idle(-2, "written", LEAST, 0); }

    static void p17_theLastAndOneBeyond() {
        Run r = Run.pots(99, 0, 0, 0).seated(0, 1, 0, 0).seated(1, 1, 0, 0);
        for (int i = 0; i < 5; i++) r.due(1 + i % 2, "spoon", i % 2, 0).due(i + 1, "written", -1, 0).due(i % 2, "written", i, 0).due(-2, "written", i + 1, 0).due(-2, "written", i + 2, 3);
        r.idle(-2, "written", 5, 0).idle(-2, "written", MOST, 0).idle(-2, "written", 1 << 30, 0);
    }

    static void p17_whatBelow0() { Run.pots(9, 0, 0, 0).seated(8, 1, 0, 0).due(9, "spoon", 0, 0).due(0, "written", 0, 0).idle(-2, "written", 0, -1).idle(-2, "written", 0, LEAST); }

    static void p17_whatAbove3() { Run.pots(9, 0, 0, 0).seated(8, 1, 0, 0).due(9, "spoon", 0, 0).due(9, "written", 0, 3).idle(-2, "written", 0, 4).idle(-2, "written", 0, MOST); }

    static void p17_eachSideAndKind() {
        Run r = Run.pots(9, 9, 9, 9).seated(1, 9, 0, 0).seated(2, 9, 0, 1);
        int[][] rows = {{1, 1, 1, 3}, {0, 0, 1, 2}, {1, 1, 0, 3}, {0, 0, 0, 2}};
        for (int[] row : rows) r.due(row[3], "spoon", row[0], row[2]);
        for (int i = 0; i < 4; i++) for (int what = 0; what < 4; what++) r.due(rows[i][what], "written", i, what);
        // The SIDE is that of then.
        r.due(true, "sit", 1, 0).due(1, "written", 0, 1).due(true, "sit", 1, 2).due(1, "written", 2, 1);
    }

    static void p17_sixty() {
        Run r = nineSeated(60);
        for (int i = 0; i < 60; i++) r.due(1, "spoon", i % 9, 0);
        r.due(60, "written", -1, 0).due(59 % 9, "written", 59, 0).due(0, "written", 59, 1).due(0, "written", 59, 2).due(1, "written", 59, 3).due(-2, "written", 60, 0).due(0, "about", 10);
    }

    static void p17_takenBack() {
        Run.pots(9, 9, 0, 0).seated(0, 1, 0, 0).due(1, "spoon", 0, 0).due(1, "spoon", 0, 1).due(2, "undo").due(1, "written", -1, 0).due(-2, "written", 1, 0).due(0, "written", 0, 2).due(1, "undo").due(0, "written", -1, 0).due(-2, "written", 0, 0);
    }

    // Promise 18: dent.

    static void p18_noDents() { new Run().due(0, "dent", -1, 0).due(-9999, "dent", 0, 0).due(-9999, "dent", -2, 0); }

    static void p18_iBelowNone() { new Run().due(0, "judge", 1).idle(1, "dent", -1, 0).idle(-9999, "dent", -2, 0).idle(-9999, "dent", LEAST, 0); }

    static void p18_theLastAndOneBeyond() {
        Run r = new Run();
        for (int i = 0; i < 30; i++) r.due(0, "judge", i % 2).due(i + 1, "dent", -1, 0).due(i % 2, "dent", i, 0).due(-9999, "dent", i + 1, 0).due(-9999, "dent", i + 2, 1);
        r.idle(-9999, "dent", 30, 0).idle(-9999, "dent", MOST, 0).idle(-9999, "dent", 1 << 30, 0);
    }

    static void p18_whatBelow0() { new Run().due(0, "judge", 1).due(1, "dent", 0, 0).idle(-9999, "dent", 0, -1).idle(-9999, "dent", 0, LEAST); }

    static void p18_whatAbove2() { Run.pots(1, 0, 0, 0).due(1, "judge", 1).due(1, "dent", 0, 2).idle(-9999, "dent", 0, 3).idle(-9999, "dent", 0, MOST); }

    static void p18_tiltAtItsMost() {
        Run r = Run.pots(999, 999, 0, 0).due(1, "judge", 1).due(true, "pot", 0, 0, 0).due(true, "pot", 0, 1, 0).due(true, "pot", 1, 0, 999).due(true, "pot", 1, 1, 999).due(0, "judge", 1);
        r.due(1998, "dent", 0, 1).due(-1998, "dent", 1, 1).due(1, "dent", 0, 2).due(0, "dent", 1, 2);
    }

    static void p18_takenBack() { new Run().due(0, "judge", 1).due(0, "judge", 0).due(1, "undo").due(1, "dent", -1, 0).due(-9999, "dent", 1, 0).due(1, "dent", 0, 0).due(0, "undo").due(0, "dent", -1, 0).due(-9999, "dent", 0, 0); }

    // Promise 19: called.

    static void p19_anEmptySet() { Run.pots(9, 0, 0, 0).seated(0, 1, 0, 0).due(8, "called", 1, 0, -1).idle(-9999, "called", 0, 0, -1).idle(-9999, "called", 0, 0, 0); }

    static void p19_aSetBelow0() { Run.pots(9, 0, 0, 0).seated(0, 1, 0, 0).idle(-9999, "called", -1, 0, -1).idle(-9999, "called", LEAST, 0, -1).idle(-9999, "called", LEAST + 1, 0, 0); }

    static void p19_oneWhoIsNotThere() {
        Run r = Run.pots(9, 0, 0, 0).due(-9999, "called", 1, 0, -1).seated(0, 1, 0, 0).due(8, "called", 1, 0, -1).idle(-9999, "called", 2, 0, -1).idle(-9999, "called", 3, 0, -1);
        r.idle(-9999, "called", MOST, 0, -1).seated(0, 1, 0, 0).due(7, "called", 3, 0, -1).due(-9999, "called", 5, 0, -1);
        Run nine = nineSeated(99).due(98, "called", 256, 0, -1).due(8, "called", 256, 0, 0).idle(-9999, "called", 512, 0, -1).idle(-9999, "called", 513, 0, -1).idle(-9999, "called", 256 | LEAST, 0, -1);
        nine.due(-9999, "called", 1 << 30, 0, -1).due(-9999, "called", 1 << 30, 0, 0).due(-9999, "called", 1025, 0, 0);
        // Nor is there a first one of a set of whom none is there, though another set was asked of ahead of it.
        nine.due(98, "called", 32, 0, -1).due(5, "called", 32, 0, 0).idle(-9999, "called", 512, 0, 0).idle(-9999, "called", 512, 1, 0).idle(-9999, "called", 544, 0, 0).idle(-9999, "called", 544, 0, 1);
    }

    static void p19_sixAndASeventh() {
        Run r = nineSeated(99);
        int[] sets = {1, 3, 7, 15, 31, 63};
        for (int n = 1; n <= 6; n++) r.due(99 - n, "called", sets[n - 1], 0, -1).due(n - 1, "called", sets[n - 1], 0, n - 1);
        for (int n = 1; n <= 6; n++) for (int i = n; i <= 7; i++) r.due(-9999, "called", sets[n - 1], 0, i);
        r.due(93, "called", 0b111111000, 0, -1).due(3, "called", 0b111111000, 0, 0).due(8, "called", 0b111111000, 0, 5);
        r.idle(-9999, "called", 127, 0, -1).idle(-9999, "called", 127, 0, 0).idle(-9999, "called", 0b111111100, 0, -1).idle(-9999, "called", 255, 0, -1).idle(-9999, "called", 511, 0, -1);
    }

    static void p19_oneWhoIsAway() {
        Run r = Run.pots(9, 0, 0, 0).seated(0, 1, 0, 0).due(1, "eater", 0, 1, 0).idle(-9999, "called", 2, 0, -1).idle(-9999, "called", 3, 0, -1).idle(-9999, "called", 3, 0, 0).due(8, "called", 1, 0, -1);
        r.due(true, "sit", 1, 1).due(8, "called", 3, 0, -1).due(true, "sit", 0, 2).due(-9999, "called", 3, 0, -1).due(9, "called", 2, 0, -1);
    }

    static void p19_kindBelow0() { Run.pots(9, 5, 0, 0).seated(0, 1, 0, 0).due(13, "called", 1, 0, -1).idle(-9999, "called", 1, -1, -1).idle(-9999, "called", 1, LEAST, -1); }

    static void p19_kindAbove1() { Run.pots(9, 0, 0, 0).seated(0, 1, 0, 0).due(9, "called", 1, 1, -1).idle(-9999, "called", 1, 2, -1).idle(-9999, "called", 1, MOST, -1); }

    static void p19_iBelowNone() { Run.pots(9, 0, 0, 0).seated(0, 1, 0, 0).idle(8, "called", 1, 0, -1).idle(-9999, "called", 1, 0, -2).idle(-9999, "called", 1, 0, LEAST); }

    static void p19_theLastAndOneBeyond() { Run.pots(9, 0, 0, 0).seated(0, 1, 0, 0).seated(0, 1, 0, 0).idle(0, "called", 3, 0, 0).idle(1, "called", 3, 0, 1).idle(-9999, "called", 3, 0, 2).idle(-9999, "called", 3, 0, MOST); }

    static void p19_whoCantEatsNothing() {
        // Nothing is left for the second; full ones and empty POTS leave TILT as it is.
        Run.pots(2, 0, 0, 0).seated(1, 1, 0, 0).seated(0, 1, 0, 0).due(0, "called", 3, 0, -1).due(0, "called", 3, 0, 0).due(2, "called", 3, 1, -1);
        Run.pots(40, 0, 0, 0).seated(9, 1, 0, 0).due(10, "spoon", 0, 0).due(10, "spoon", 0, 0).idle(20, "called", 1, 0, -1).idle(0, "called", 1, 0, 0);
        new Run().seated(9, 9, 0, 1).seated(9, 9, 0, 0).due(0, "called", 3, 0, -1).due(0, "called", 3, 0, 0).due(1, "called", 3, 0, 1);
        // Who can't is none of the spoons that were eaten: so the second eats 1, not 2.
        Run.pots(9, 0, 0, 0).seated(0, 1, 0, 1).seated(0, 1, 0, 0).ruledBy("eats spoons+1;").due(8, "called", 3, 0, -1).due(0, "called", 3, 0, 0);
        // Nor is it one less for the orders that are tried behind that one.
        Run.pots(9, 0, 0, 0).seated(0, 1, 0, 1).seated(0, 1, 0, 0).ruledBy("eats 3-spoons;").due(6, "called", 3, 0, -1).due(0, "called", 3, 0, 0).due(1, "called", 3, 0, 1);
        Run three = Run.pots(9, 0, 0, 0).seated(0, 1, 0, 1).seated(0, 1, 0, 1).seated(0, 1, 0, 0).ruledBy("eats spoons*9+2;").due(7, "called", 7, 0, -1);
        for (int i = 0; i < 3; i++) three.due(i, "called", 7, 0, i);
    }

    /** The first who is called eats 1, the second 2: 0 is called first, unless it is less level so. */
    static void p19_aboveAndBelow0AreAlike() {
        int[][] dueOfTilt = {{-2, -1, 0}, {-1, 0, 0}, {0, 1, 0}, {1, 0, 1}, {2, 1, 1}};
        for (int[] c : dueOfTilt) {
            Run r = Run.pots(20 + c[0], 0, 20, 0).seated(0, 9, 0, 0).seated(0, 9, 0, 1).ruledBy("eats spoons+1;");
            r.due(c[1], "called", 3, 0, -1).due(c[2], "called", 3, 0, 0).due(1 - c[2], "called", 3, 0, 1);
        }
        int[][] otherWayRound = {{-1, 0, 1}, {0, -1, 0}, {1, 0, 0}};
        for (int[] c : otherWayRound) {
            Run r = Run.pots(20 + c[0], 0, 20, 0).seated(0, 9, 0, 1).seated(0, 9, 0, 0).ruledBy("eats spoons+1;");
            r.due(c[1], "called", 3, 0, -1).due(c[2], "called", 3, 0, 0);
        }
    }

    /** Who is called first eats 1, then 2, 3, 4: what counts is when the one of SIDE 1 is called. */
    static void p19_ofLikeOnesTheLowestSecondToo() {
        int[][] cases = {{2, 0, 0, 1, 2, 3}, {3, 1, 0, 1, 2, 3}, {4, 0, 0, 1, 3, 2}, {5, 1, 0, 1, 3, 2}, {6, 0, 0, 3, 1, 2}, {7, 1, 0, 3, 1, 2}, {8, 0, 3, 0, 1, 2}};
        for (int[] c : cases) {
            Run r = Run.pots(20 + c[0], 0, 20, 0).seated(0, 9, 0, 0).seated(0, 9, 0, 0).seated(0, 9, 0, 0).seated(0, 9, 0, 1).ruledBy("eats spoons+1;").due(c[1], "called", 15, 0, -1);
            for (int i = 0; i < 4; i++) r.due(c[2 + i], "called", 15, 0, i);
        }
    }

    static void p19_tiltAtItsMost() { Run.pots(999, 999, 0, 0).seated(0, 9, 0, 0).due(1997, "called", 1, 0, -1).due(true, "sit", 0, 1).due(1998, "called", 1, 0, -1); }

    static void p19_changesNothing() { Run.pots(20, 20, 30, 30).seated(3, 9, 0, 0).seated(4, 9, 0, 1).seated(5, 9, 0, 1).idle(-13, "called", 7, 1, -1).idle(0, "called", 7, 1, 0).idle(2, "called", 7, 0, 2); }

    // Promise 20: acquitted.

    static void p20_sideBelow0() { new Run().due(0, "acquitted", 0, -1).idle(-3, "acquitted", -1, -1).idle(-3, "acquitted", LEAST, -1); }

    static void p20_sideAbove1() { new Run().due(0, "acquitted", 1, -1).idle(-3, "acquitted", 2, -1).idle(-3, "acquitted", MOST, -1); }

    static void p20_now() { Run.pots(5, 0, 5, 0).idle(0, "acquitted", 0, -1).idle(0, "acquitted", 0, -2).idle(-3, "acquitted", 0, 0).idle(0, "acquitted", 1, -1).idle(0, "acquitted", 1, -2).idle(-3, "acquitted", 1, 0); }

    static void p20_iBelowHoney() { Run.pots(0, 0, 0, 1).seated(0, 1, 0, 1).due(1, "acquitted", 0, -1).due(0, "acquitted", 0, -2).idle(-3, "acquitted", 0, -3).idle(-3, "acquitted", 0, LEAST); }

    static void p20_theLastAndOneBeyond() {
        for (int n = 1; n <= 4; n++) {
            Run r = Run.pots(0, 0, 0, n).seated(0, 1, 0, 1).idle(n, "acquitted", 0, -1).idle(0, "acquitted", 0, -2);
            for (int i = 0; i < n; i++) r.due(1, "acquitted", 0, i);
            for (int i = n; i <= 5; i++) r.idle(-3, "acquitted", 0, i);
            r.idle(-3, "acquitted", 0, MOST);
        }
    }

    static void p20_fourAreTooFew() {
        Run r = Run.pots(0, 0, 0, 5).seated(0, 1, 0, 1);
        for (int i = -3; i <= 5; i++) r.idle(-3, "acquitted", 0, i);
        r.due(1, "spoon", 0, 1).due(4, "acquitted", 0, -1);
    }

    static void p20_tiltAbout0() {
        int[][] cases = {{1, 0, 0, 1}, {0, 0, 0, 0}, {0, 1, 1, 0}};
        for (int[] c : cases) Run.pots(0, 1 + c[0], 0, 1 + c[1]).seated(0, 1, 0, 0).seated(0, 1, 0, 1).due(c[2], "acquitted", 0, -1).due(c[3], "acquitted", 1, -1);
    }

    static void p20_nobodyCan() {
        Run r = Run.pots(0, 0, 9, 9).due(-3, "acquitted", 0, -1).due(-3, "acquitted", 0, -2).due(-3, "acquitted", 0, 0).due(0, "eater", 9, 1, 0).due(-3, "acquitted", 0, -1);
        r.due(true, "sit", 0, 0).due(-3, "acquitted", 0, -1).due(true, "sit", 0, 1).due(2, "acquitted", 0, -1);
        Run.pots(0, 0, 21, 0).seated(9, 1, 0, 1).due(10, "spoon", 0, 0).due(10, "spoon", 0, 0).due(-3, "acquitted", 0, -1);
    }

    static void p20_fewerSpoonsAheadOfLessHoney() { Run.pots(0, 0, 4, 0).seated(3, 9, 0, 1).seated(0, 9, 0, 1).due(1, "acquitted", 0, -1).due(4, "acquitted", 0, -2).due(0, "acquitted", 0, 0); }

    static void p20_theLeastHoney() {
        // Two spoons of 2 GRAINS: both of HONEY, one of each, both of SALT.
        Run r = Run.pots(0, 0, 4, 0).seated(1, 9, 0, 1).due(2, "acquitted", 0, -1).due(4, "acquitted", 0, -2).due(true, "pot", 1, 0, 2).due(true, "pot", 1, 1, 2);
        r.due(2, "acquitted", 0, -1).due(2, "acquitted", 0, -2).due(0, "acquitted", 0, 0).due(1, "acquitted", 0, 1).due(true, "pot", 1, 0, 0).due(true, "pot", 1, 1, 4);
        r.due(0, "acquitted", 0, -2).due(1, "acquitted", 0, 0).due(1, "acquitted", 0, 1);
        // The higher number, as it takes a GRAIN of HONEY less.
        Run.pots(0, 0, 5, 0).seated(3, 9, 0, 1).seated(2, 9, 0, 1).ruledBy("guilty honey>2;").due(1, "acquitted", 1, -1).due(3, "acquitted", 1, -2).due(2, "acquitted", 1, 0);
    }

    /** HONEY out of both POTS together counts, not that of the SIDE alone. */
    static void p20_honeyOfBothPots() {
        Run r = Run.pots(9, 9, 9, 9).seated(1, 9, 0, 0).seated(2, 9, 0, 1).ruledBy("guilty tilt#1 and tilt#-1;").due(2, "acquitted", 0, -1).due(0, "acquitted", 0, -2).due(1, "acquitted", 0, 0).due(3, "acquitted", 0, 1);
        r.due(true, "pot", 0, 1, 0).due(true, "pot", 1, 1, 0).due(2, "acquitted", 0, -1).due(5, "acquitted", 0, -2).due(0, "acquitted", 0, 0).due(2, "acquitted", 0, 1);
    }

    static void p20_ofLikeOnesTheLowest() {
        Run.pots(0, 0, 0, 1).seated(0, 1, 0, 1).seated(0, 1, 0, 1).due(1, "acquitted", 0, 0);
        Run r = new Run().due(true, "pot", 1, 1, 4);
        for (int e = 0; e < 9; e++) r.seated(0, 9, 0, e == 8 ? 1 : 0);
        for (int i = 0; i < 4; i++) r.due(17, "acquitted", 0, i);
        r.due(-3, "acquitted", 0, 4).due(true, "sit", 5, 1);
        for (int i = 0; i < 4; i++) r.due(11, "acquitted", 0, i);
        // The second ones count behind the first: 1 then 3, not 3 then 1.
        Run.pots(0, 0, 0, 3).seated(0, 9, 0, 1).seated(1, 9, 0, 1).due(2, "acquitted", 0, -1).due(1, "acquitted", 0, 0).due(3, "acquitted", 0, 1);
    }

    static void p20_oneBehindTheOther() {
        // Each spoon is a GRAIN more than the one ahead of it: 1 and 2 and 3 and 4.
        for (int n = 1; n <= 4; n++) Run.pots(0, 0, 0, n * (n + 1) / 2).seated(0, 9, 0, 1).ruledBy("eats spoons+1;").due(n, "acquitted", 0, -1);
        Run.pots(0, 0, 0, 11).seated(0, 9, 0, 1).ruledBy("eats spoons+1;").due(-3, "acquitted", 0, -1).due(1, "spoon", 0, 1).due(4, "acquitted", 0, -1);
    }

    /** The lower one first would be alike, or not: what the second eats hangs on the first. */
    static void p20_theOrderCounts() {
        // The first one eats 1 always, the second 4, then 2, then nothing: 1 and 2 are 3, but 4 and 1 are 5.
        Run r = Run.pots(0, 0, 0, 5).seated(0, 9, 0, 1).seated(3, 9, 0, 1).ruledBy("eats hunger+1-spoons*eater*2;").due(2, "acquitted", 0, -1).due(3, "acquitted", 0, 0).due(1, "acquitted", 0, 1);
        r.due(true, "pot", 1, 1, 6).due(2, "acquitted", 0, -1).due(3, "acquitted", 0, 0).due(3, "acquitted", 0, 1);
        r.due(true, "pot", 1, 1, 7).due(3, "acquitted", 0, -1).due(3, "acquitted", 0, 0).due(3, "acquitted", 0, 1).due(1, "acquitted", 0, 2);
        // Of HONEY then SALT: left is what counts.
        Run s = Run.pots(0, 0, 8, 8).seated(0, 9, 0, 1).ruledBy("eats left/2+kind*spoons*9;guilty honey+salt>2;").due(3, "acquitted", 1, -1).due(0, "acquitted", 1, 0).due(0, "acquitted", 1, 1).due(1, "acquitted", 1, 2);
        s.due(6, "acquitted", 1, -2);
        // Spoons of 7, 5 and 3, and 13 are to go: only SALT first is less than it may be.
        Run u = Run.pots(15, 5, 5, 19).seated(1, 9, 0, 1).seated(0, 9, 0, 1).seated(1, 9, 0, 0).ruledBy("eats 7-spoons*2;guilty honey+salt#7;").due(3, "acquitted", 0, -1).due(8, "acquitted", 0, -2);
        for (int i = 0; i < 3; i++) u.due(i == 0 ? 5 : 4, "acquitted", 0, i);
    }

    /** Of courts by laws that hang on order: the same as all rows of up to four SPOONS that are eaten by hand, each in a new court. */
    static void p20_asTriedByHand() {
        String[] eats = {"spoons+1", "7-spoons*2", "9-eaten", "eaten+1", "left/2", "left-left/3*3+1", "hunger+1-eaten/3", "eater*4-spoons*3+1", "eater+spoons*kind+1", "hunger+1-spoons*eater*2"};
        String[] guilty = {"tilt#0", "tilt<0", "honey#salt", "honey+salt#7", "tilt*tilt>2", "tilt#-honey"};
        Random random = new Random(20);
        for (int i = 0; i < 120; i++) {
            int[] grains = new int[4];
            for (int pot = 0; pot < 4; pot++) grains[pot] = random.nextInt(3) == 0 ? 0 : random.nextInt(25);
            int[][] eaters = new int[2 + i % 2][];
            for (int e = 0; e < eaters.length; e++) eaters[e] = new int[] {random.nextInt(6), random.nextInt(2)};
            new ByHand(grains, eaters, "eats " + eats[i % eats.length] + ";guilty " + guilty[random.nextInt(guilty.length)] + ";", i / 2 % 2).compare();
        }
    }

    /** A court in which rows of SPOONS are tried one by one. */
    private static final class ByHand {
        private final int[] grains;
        private final int[][] eaters;
        private final String law;
        private final int side;
        private int[] best = null;
        private long bestHoney = 0;

        ByHand(int[] grains, int[][] eaters, String law, int side) {
            this.grains = grains;
            this.eaters = eaters;
            this.law = law;
            this.side = side;
        }

        private Run court() {
            Run r = Run.pots(grains[0], grains[1], grains[2], grains[3]);
            for (int[] e : eaters) r.seated(e[0], 9, 0, e[1]);
            return r.ruledBy(law);
        }

        void compare() {
            for (int n = 0; n <= 4 && best == null; n++) tryAll(new int[n], 0);
            Run r = court().due(best == null ? -3 : best.length, "acquitted", side, -1).due(best == null ? -3 : bestHoney, "acquitted", side, -2);
            for (int i = 0; i <= 4; i++) r.due(best == null || i >= best.length ? -3 : best[i], "acquitted", side, i);
        }

        /** Rows come the lowest first, so that of like ones the first stays. */
        private void tryAll(int[] row, int at) {
            if (at == row.length) tryOne(row);
            else for (row[at] = 0; row[at] < 2 * eaters.length; row[at]++) tryAll(row, at + 1);
        }

        private void tryOne(int[] row) {
            Run r = court();
            long honey = 0;
            for (int code : row) {
                long eaten = r.call("spoon", code / 2, code % 2);
                if (eaten < 1) return;
                honey += code % 2 == 0 ? eaten : 0;
            }
            if (r.call("judge", side) == 0 && (best == null || honey < bestHoney)) {
                best = Arrays.copyOf(row, row.length);
                bestHoney = honey;
            }
        }
    }

    static void p20_side1() {
        for (int n = 1; n <= 4; n++) {
            Run r = Run.pots(0, n, 0, 0).seated(0, 9, 0, 0).due(n, "acquitted", 1, -1).due(0, "acquitted", 1, -2).due(0, "acquitted", 0, -1);
            for (int i = 0; i < n; i++) r.due(1, "acquitted", 1, i);
            r.due(true, "pot", 0, 1, 0).due(true, "pot", 0, 0, n).due(n, "acquitted", 1, -1).due(n, "acquitted", 1, -2).due(0, "acquitted", 1, 0);
        }
        Run.pots(0, 5, 0, 0).seated(0, 9, 0, 0).due(-3, "acquitted", 1, -1);
    }

    /** Asked again, it is of what is now, whatever has changed since. */
    static void p20_askedAgain() {
        Run r = Run.pots(0, 0, 2, 0).seated(0, 9, 0, 1).due(2, "acquitted", 0, -1).due(2, "acquitted", 0, -2).due(0, "image").due(1, "spoon", 0, 0).due(1, "acquitted", 0, -1).due(1, "acquitted", 0, -2);
        r.due(1, "spoon", 0, 0).due(0, "acquitted", 0, -1).due(0, "acquitted", 0, -2).due(2, "undo").due(1, "acquitted", 0, -1).due(0, "back").due(2, "acquitted", 0, -1).due(2, "acquitted", 0, -2);
        r.due(true, "sit", 0, 2).due(-3, "acquitted", 0, -1).due(1, "undo").due(2, "acquitted", 0, -1).due(true, "pot", 0, 0, 2).due(0, "acquitted", 0, -2).due(true, "pot", 0, 0, 1).due(1, "acquitted", 0, -1);
        Run.pots(0, 0, 0, 1).due(-3, "acquitted", 0, -1).due(1, "flies", 1).due(0, "acquitted", 0, -1).due(0, "undo").due(-3, "acquitted", 0, -1);
        new Run().ruledBy("guilty dents=0;").due(-3, "acquitted", 0, -1).due(1, "judge", 0).due(0, "acquitted", 0, -1).due(0, "undo").due(-3, "acquitted", 0, -1);
        Run.pots(0, 0, 0, 1).told(0, "flies 1;").due(-3, "acquitted", 0, -1).due(-1, "played", 0).due(0, "acquitted", 0, -1).due(0, "back").due(0, "acquitted", 0, -1);
    }

    static void p20_asTheLawIsNow() {
        Run r = Run.pots(0, 0, 0, 1).seated(0, 9, 0, 1).due(1, "acquitted", 0, -1).ruledBy("guilty 1=1;").due(-3, "acquitted", 0, -1).due(-3, "acquitted", 1, -1).ruledBy("guilty 1=2;").due(0, "acquitted", 0, -1);
        r.ruledBy("eats 0;").due(-3, "acquitted", 0, -1).due(true, "by", -1).due(1, "acquitted", 0, -1);
    }

    // Promise 21: sets.

    static void p21_sideBelow0() { Run.pots(5, 5, 5, 5).due(1, "sets", 0, 0, 5, -1).idle(-1, "sets", -1, 0, 5, -1).idle(-1, "sets", LEAST, 0, 5, -1).idle(-1, "sets", -1, 0, 5, 0); }

    static void p21_sideAbove1() { Run.pots(5, 5, 5, 5).due(1, "sets", 1, 0, 5, -1).idle(-1, "sets", 2, 0, 5, -1).idle(-1, "sets", MOST, 0, 5, -1).idle(-1, "sets", 2, 0, 5, 0); }

    static void p21_kindBelow0() { Run.pots(5, 5, 5, 5).due(1, "sets", 1, 0, 5, -1).idle(-1, "sets", 1, -1, 5, -1).idle(-1, "sets", 1, LEAST, 5, -1); }

    static void p21_kindAbove1() { Run.pots(5, 5, 5, 5).due(1, "sets", 0, 1, 5, -1).idle(-1, "sets", 0, 2, 5, -1).idle(-1, "sets", 0, MOST, 5, -1); }

    static void p21_gBelow0() { Run.pots(1, 0, 0, 0).seated(0, 1, 0, 0).due(1, "sets", 0, 0, 1, -1).due(1, "sets", 0, 0, 0, -1).due(1, "sets", 0, 0, 0, 0).idle(-1, "sets", 0, 0, -1, -1).idle(-1, "sets", 0, 0, -1, 0).idle(-1, "sets", 0, 0, LEAST, -1); }

    static void p21_gAbove999() { Run.pots(999, 0, 0, 0).seated(0, 1, 0, 0).due(1, "sets", 0, 0, 998, -1).due(1, "sets", 0, 0, 999, -1).due(0, "sets", 0, 0, 999, 0).idle(-1, "sets", 0, 0, 1000, -1).idle(-1, "sets", 0, 0, 1000, 0).idle(-1, "sets", 0, 0, MOST, -1); }

    static void p21_iBelowNone() { Run.pots(5, 0, 0, 0).seated(0, 1, 0, 0).idle(1, "sets", 0, 0, 4, -1).idle(-1, "sets", 0, 0, 4, -2).idle(-1, "sets", 0, 0, 4, LEAST); }

    static void p21_theLastAndOneBeyond() {
        Run.pots(5, 0, 0, 0).seated(0, 1, 0, 0).seated(0, 1, 0, 0).idle(2, "sets", 0, 0, 4, -1).idle(1, "sets", 0, 0, 4, 0).idle(2, "sets", 0, 0, 4, 1).idle(-1, "sets", 0, 0, 4, 2).idle(-1, "sets", 0, 0, 4, MOST);
    }

    static void p21_thereAreNone() { Run.pots(5, 0, 0, 0).seated(1, 1, 0, 0).due(0, "sets", 0, 0, 4, -1).due(-1, "sets", 0, 0, 4, 0).due(0, "sets", 0, 0, 6, -1).due(-1, "sets", 0, 0, 6, 0); }

    static void p21_eachPot() {
        for (int pot = 0; pot < 4; pot++) {
            Run r = Run.pots(50, 60, 70, 80).seated(0, 9, 0, 0).seated(2, 9, 0, 1).ruledBy("eats hunger+1+kind;");
            int full = 50 + 10 * pot;
            int eaten = (pot < 2 ? 1 : 3) + pot % 2;
            r.due(2, "sets", pot / 2, pot % 2, full, -1).due(0, "sets", pot / 2, pot % 2, full, 0).due(pot < 2 ? 2 : 1, "sets", pot / 2, pot % 2, full, 1);
            r.due(2, "sets", pot / 2, pot % 2, full - eaten, -1).due(pot < 2 ? 1 : 2, "sets", pot / 2, pot % 2, full - eaten, 0).due(3, "sets", pot / 2, pot % 2, full - eaten, 1);
        }
    }

    static void p21_theEmptySet() { new Run().due(1, "sets", 0, 0, 0, -1).due(0, "sets", 0, 0, 0, 0).due(-1, "sets", 0, 0, 0, 1).due(0, "sets", 0, 0, 1, -1).due(true, "pot", 0, 0, 1).due(0, "sets", 0, 0, 0, -1).due(1, "sets", 0, 0, 1, -1); }

    static void p21_allNine() {
        Run r = nineSeated(9).due(1, "sets", 0, 0, 0, -1).due(511, "sets", 0, 0, 0, 0).due(1, "sets", 0, 0, 9, -1).due(0, "sets", 0, 0, 9, 0).due(9, "sets", 0, 0, 1, -1).due(255, "sets", 0, 0, 1, 0).due(510, "sets", 0, 0, 1, 8).due(-1, "sets", 0, 0, 1, 9);
        r.due(126, "sets", 0, 0, 5, -1).due(15, "sets", 0, 0, 5, 0).due(480, "sets", 0, 0, 5, 125).due(-1, "sets", 0, 0, 5, 126);
    }

    /** One GRAIN too few for the ninth, who then can't. */
    static void p21_allOfThemCan() { nineSeated(8).due(9, "sets", 0, 0, 0, -1).due(255, "sets", 0, 0, 0, 0).due(510, "sets", 0, 0, 0, 8).due(-1, "sets", 0, 0, 0, 9); }

    static void p21_whoIsAwayCant() {
        Run r = Run.pots(5, 0, 5, 0).due(0, "eater", 0, 1, 0).seated(0, 1, 0, 0).due(1, "sets", 0, 0, 4, -1).due(2, "sets", 0, 0, 4, 0).due(1, "sets", 0, 0, 5, -1).due(0, "sets", 0, 0, 5, 0);
        r.due(true, "sit", 0, 1).due(2, "sets", 0, 0, 4, -1).due(3, "sets", 0, 0, 4, 1).due(2, "sets", 0, 0, 5, -1).due(1, "sets", 0, 0, 5, 1).due(true, "pot", 1, 0, 0).due(1, "sets", 0, 0, 5, -1);
    }

    /** Who eats first, by number, leaves less for the next. */
    static void p21_byNumberEach() {
        Run.pots(4, 0, 0, 0).seated(2, 9, 0, 0).seated(2, 9, 0, 0).due(2, "sets", 0, 0, 1, -1).due(1, "sets", 0, 0, 0, -1).due(3, "sets", 0, 0, 0, 0);
        Run.pots(9, 0, 9, 0).seated(0, 9, 0, 0).seated(0, 9, 0, 1).seated(0, 9, 0, 0).ruledBy("eats spoons+1;").due(7, "sets", 0, 0, 5, 0).due(5, "sets", 0, 0, 6, 0).due(-1, "sets", 0, 0, 6, 1).due(3, "sets", 0, 0, 8, -1).due(3, "sets", 0, 0, 8, 1).due(4, "sets", 0, 0, 8, 2);
    }
}
