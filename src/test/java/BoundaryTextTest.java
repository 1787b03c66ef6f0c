/** The boundary cases that promises 9 to 15 name: the tape, texts and their faults, scripts, steps taken back. */
public final class BoundaryTextTest {
    private static final int LEAST = Run.LEAST;
    private static final int MOST = Run.MOST;
    private static final int BLANKS = 0x20202020;

    public static void main(String[] args) throws Exception { Cases.runAll(BoundaryTextTest.class, 9, 15); }

    private static Run fed(int times) {
        Run r = new Run();
        for (int i = 1; i <= times; i++) r.due(20 * i, "feed", BLANKS, BLANKS, BLANKS, BLANKS, BLANKS);
        return r;
    }

    /** What can't stand at the place of ^ (or behind the blanks there). */
    private static void dueFaultAt(int fault, String marked) {
        int place = marked.indexOf('^');
        String text = marked.substring(0, place) + marked.substring(place + 1);
        while (place < text.length() && text.charAt(place) == ' ') place++;
        Run.dueFault(fault, place, text);
    }

    private static void dueFine(String text) { Run.dueFault(0, -1, text); }

    // Promise 9: feed.

    static void p09_threeHundredBytes() { fed(14).due(280, "about", 9).due(300, "feed", 1, 2, 3, 4, 5).due(300, "about", 9).idle(-1, "feed", 1, 2, 3, 4, 5).due(300, "about", 9); }

    static void p09_justTwentyFree() { fed(15).due(279, "end", 279).due(299, "feed", 0, 0, 0, 0, 0).due(280, "end", 280).due(300, "feed", 0, 0, 0, 0, 0); }

    static void p09_nineteenFree() { fed(15).due(281, "end", 281).idle(-1, "feed", 0, 0, 0, 0, 0).due(281, "about", 9); }

    static void p09_noneComeIfRefused() {
        fed(15).due(281, "end", 281).due(-1, "feed", MOST, MOST, MOST, MOST, MOST).due(0, "text").due(0, "fault", 0);
        fed(15).due(-1, "feed", MOST, MOST, MOST, MOST, MOST).due(0, "text").due(0, "fault", 0);
    }

    static void p09_theHighestByteOfAFirst() {
        for (int at = 0; at < 20; at++) {
            int[] w = {BLANKS, BLANKS, BLANKS, BLANKS, BLANKS};
            w[at / 4] ^= (' ' ^ '?') << (24 - 8 * (at % 4));
            new Run().due(20, "feed", w[0], w[1], w[2], w[3], w[4]).due(-1, "text").due(1, "fault", 0).due(at, "fault", 1);
        }
    }

    static void p09_bytesFrom0To255() {
        for (int b = 0; b < 256; b++) {
            int word = BLANKS & 0xff00ffff | b << 16;
            boolean blank = b == 32 || b == 10;
            new Run().due(20, "feed", word, BLANKS, BLANKS, BLANKS, BLANKS).due(blank ? 0 : -1, "text").due(blank ? 0 : 1, "fault", 0).due(blank ? -1 : 1, "fault", 1);
        }
    }

    static void p09_allBitsSet() { new Run().due(20, "feed", -1, -1, -1, -1, -1).due(-1, "text").due(1, "fault", 0).due(0, "fault", 1); }

    static void p09_oneBehindTheOther() { new Run().tape("judge 1;judge 1;judge").tape(" 1;").due(24, "about", 9).due(0, "text").due(-1, "played", 0).due(3, "about", 2); }

    // Promise 10: end.

    static void p10_nBelow0() { fed(1).due(1, "end", 1).idle(-1, "end", -1).idle(-1, "end", LEAST).due(1, "about", 9).due(0, "end", 0).due(0, "about", 9).idle(-1, "end", -1); }

    static void p10_moreThanItHas() { fed(1).due(20, "end", 20).idle(-1, "end", 21).idle(-1, "end", MOST).due(19, "end", 19).due(19, "about", 9).idle(-1, "end", 20); }

    static void p10_anEmptyTape() { new Run().idle(0, "end", 0).idle(-1, "end", 1).idle(-1, "end", -1); }

    static void p10_aFullTape() { fed(15).idle(-1, "end", 301).idle(300, "end", 300).due(299, "end", 299).idle(-1, "end", 300); }

    static void p10_bytesBehindAreGone() {
        new Run().tape("judge 1;?").due(8, "end", 8).due(-1, "end", 9).due(0, "text");
        new Run().tape("judge 1;????????????").due(8, "end", 8).due(28, "feed", BLANKS, BLANKS, BLANKS, BLANKS, BLANKS).due(0, "text");
    }

    /** What was cut off behind a TOKEN's part is no part of it. */
    static void p10_cutInsideAToken() {
        Object[][] cases = {{"guilty 1<=1;", 9, 1, 9}, {"guilty 1>=1;", 9, 1, 9}, {"judge 22;", 7, 2, 6}, {"judge 12;", 7, 1, 7}, {"eats 10000;", 9, 1, 9}, {"eatss", 4, 1, 4}, {"eats", 3, 1, 0}, {"eats eaten", 9, 1, 5}, {"eats spoons", 10, 1, 5}};
        for (Object[] c : cases) new Run().tape((String) c[0]).due((int) c[1], "end", c[1]).due(-1, "text").due((int) c[2], "fault", 0).due((int) c[3], "fault", 1);
    }

    static void p10_cutToNothing() { new Run().tape("?").due(0, "end", 0).due(0, "text").due(-1, "played", 0); }

    // Promise 11: text.

    static void p11_anEmptyTape() { new Run().due(0, "text").due(1, "about", 4).due(0, "fault", 0).due(-1, "fault", 1).due(-1, "played", 0); }

    static void p11_blanksAlone() { fed(15).due(0, "text").due(0, "about", 9).due(-1, "played", 0); }

    static void p11_fourAndAFifth() {
        Run r = new Run();
        for (int i = 0; i < 4; i++) r.told(i, "judge 1;").due(i + 1, "about", 4);
        r.tape("judge 0;").idle(-1, "text").due(8, "about", 9).due(4, "about", 4).due(-1, "played", 3);
    }

    static void p11_theFifthIsNotRead() {
        Run r = new Run();
        for (int i = 0; i < 4; i++) r.due(i, "text");
        r.tape("judge 2;").idle(-1, "text").due(0, "fault", 0).due(-1, "fault", 1).due(8, "about", 9).due(0, "end", 0).idle(-1, "text");
    }

    static void p11_aFaultEmptiesTheTape() { new Run().tape("judge 2;").due(-1, "text").due(0, "about", 9).due(0, "text"); }

    static void p11_aFaultTakesNoNumber() {
        Run r = new Run();
        for (int i = 0; i < 4; i++) r.told(-1, "judge 2;").due(i, "about", 4).told(i, "judge 1;").due(0, "about", 9);
        r.due(4, "about", 4);
    }

    /** A text with a FAULT leaves nothing of itself in the next one. */
    static void p11_nothingOfAFaultyOneStays() {
        Run r = new Run().due(0, "eater", 3, 1, 0).told(-1, "eats 7;holds 7;guilty 1=1;judge 1;judge 2;").told(0, "judge 0;").due(true, "by", 0);
        r.due(20, "of", 0, 5).due(-1, "played", 0).due(1, "about", 2).due(0, "dent", 0, 2);
        // What was open when it ended is not open in the next one.
        String deep = Run.times(8, "(") + "1" + Run.times(8, ")");
        for (String open : new String[] {"eats ((((((((", "eats --------", "guilty not not not not not not not not", "guilty 1<(1+2*3"}) {
            new Run().told(-1, open).told(0, "eats " + deep + ";").told(1, "guilty " + deep + "=" + deep + ";").due(true, "by", 1).due(1, "judge", 0);
            new Run().told(-1, open).told(0, "guilty " + Run.times(8, "not ") + "1=1;").due(true, "by", 0).due(1, "judge", 0);
        }
    }

    /** However many and long those with a FAULT were, there is room for all of the next one. */
    static void p11_manyAndLongFaultyOnes() {
        Run r = new Run();
        for (int i = 0; i < 4; i++) r.told(-1, "eats 1" + Run.times(147, "+1"));
        r.due(0, "eater", 0, 1, 0).told(0, "holds 1" + Run.times(145, "+1") + ";").due(true, "by", 0).due(146, "of", 0, 5);
    }

    static void p11_threeHundredBytes() {
        String sum = "eats 1" + Run.times(146, "+1");
        new Run().told(0, sum + "; ").due(0, "about", 9);
        new Run().told(0, " " + sum + ";");
        Run.dueFault(1, 299, sum + ";;");
        Run.dueFault(1, 300, sum + "  ");
        // TOKENS that could go on, but for the end.
        for (String last : new String[] {"1", "+1", "+eater", "+11"}) Run.dueFault(1, 300, "eats " + Run.times(294 - last.length(), " ") + "1" + last);
        for (String last : new String[] {"<", ">", "<=", "#"}) Run.dueFault(1, 300, "guilty " + Run.times(292 - last.length(), " ") + "1" + last);
        for (String last : new String[] {"eats", "judge", "sit", "flies"}) Run.dueFault(1, 300, Run.times(300 - last.length(), " ") + last);
        Run.dueFault(1, 299, Run.times(299, " ") + "?");
        Run.dueFault(2, 295, "eats " + Run.times(290, " ") + "10000");
        new Run().told(0, Run.times(292, " ") + "judge 1;").due(-1, "played", 0).due(1, "about", 2);
    }

    static void p11_roomAgainBehindBack() {
        Run r = new Run().told(0, "judge 0;").due(0, "image");
        for (int i = 1; i < 4; i++) r.told(i, "judge 1;");
        r.tape("judge 1;").due(-1, "text").due(0, "back").due(1, "about", 4).due(8, "about", 9).due(1, "text").due(2, "text").due(3, "text").idle(-1, "text");
        r.due(-1, "played", 0).due(0, "dent", 0, 0).due(-1, "played", 1).due(1, "dent", 1, 0).due(-1, "played", 2).due(2, "about", 2);
    }

    // Promise 12: fault.

    static void p12_whatBelow0() { new Run().told(-1, "judge 2;").due(2, "fault", 0).idle(-1, "fault", -1).idle(-1, "fault", LEAST); }

    static void p12_whatAbove1() { new Run().told(-1, "judge 2;").due(6, "fault", 1).idle(-1, "fault", 2).idle(-1, "fault", MOST); }

    static void p12_aheadOfAny() { new Run().due(-1, "fault", 0).due(-1, "fault", 1).tape("judge 2;").due(-1, "fault", 0).due(-1, "fault", 1); }

    static void p12_withoutOne() { new Run().told(-1, "judge 2;").due(2, "fault", 0).due(6, "fault", 1).told(0, "judge 1;").due(0, "fault", 0).due(-1, "fault", 1); }

    static void p12_ofTheLatestThatWasRead() {
        Run r = new Run().due(0, "text").due(1, "text").due(2, "text").told(-1, "judge 41;").told(-1, " ?").due(1, "fault", 0).due(1, "fault", 1);
        r.due(3, "text").due(0, "fault", 0).tape("judge 2;").due(-1, "text").due(0, "fault", 0).due(-1, "fault", 1);
    }

    static void p12_staysBehindBack() { new Run().due(0, "image").told(-1, "judge 2;").due(0, "back").due(2, "fault", 0).due(6, "fault", 1); }

    static void p12_staysBehindUndo() { new Run().due(0, "judge", 0).told(-1, "judge 2;").due(0, "undo").due(2, "fault", 0).due(6, "fault", 1); }

    static void p12_ofTheEndAtTheLength() {
        String[] unfinished = {"eats", "eats ", "eats 1", "eats (", "eats (1", "eats (1)", "eats -", "eats 1+", "eats 1*", "holds", "holds 1\n", "guilty", "guilty not", "guilty 1", "guilty 1<", "guilty 1<2",
            "guilty 1<2 or", "guilty 1<2 and", "sit", "sit 1", "sit 1 at", "sit 1 at 1", "spoon", "spoon 1", "spoon 1 of", "spoon 1 of 1", "judge", "judge 1", "flies", "flies 1", "judge 1;judge 1 \n \n"};
        for (String text : unfinished) Run.dueFault(1, text.length(), text);
        Run.dueFault(1, 300, "eats" + Run.times(296, " "));
    }

    static void p12_fault1_cantStandThere() {
        String[] marked = {"^;", "^1;", "^at;", "^eater;", "^+", "judge 1;^;", "judge ^;", "judge ^eater;", "judge ^-1;", "judge ^(1);", "judge 1^ 1;", "eats ^;", "eats ^*1;", "eats ^+1;", "eats ^);", "eats (^);", "eats (1^;",
            "eats 1^);", "eats 1^ 1;", "eats 1^ eater;", "eats 1^ (1);", "eats 1+^;", "eats 1+^*1;", "eats 1^<2;", "eats 1^ and 1;", "eats ^not 1=1;", "eats (^not 1);", "eats ^eats;", "eats 1^ holds 1;",
            "guilty ^;", "guilty 1^;", "guilty 1=1^=1;", "guilty (1^=1);", "guilty 1=(1^=1);", "guilty 1=^not 1=1;", "guilty 1=1^ not 1=1;", "guilty -^not 1=1;", "guilty (^not 1=1);", "guilty 1^ or 1=1;", "guilty 1^ and 1=1;",
            "guilty 1=1 or^;", "guilty 1=1 and ^or 1=1;", "guilty not^;", "guilty not ^and;", "guilty 1=1^ 1=1;", "sit ^at 1;", "sit 1^ 1;", "sit 1 ^of 1;", "sit 1 at^;", "sit 1 at ^-1;", "spoon 1 ^at 1;", "spoon 1 of ^side;", "flies^;",
            "flies ^left;"};
        for (String m : marked) dueFaultAt(1, m);
    }

    static void p12_fault1_isNone() {
        for (String m : new String[] {"^eat 1;", "^eatss 1;", "^Eats 1;", "^EATS 1;", "^foo;", "eats ^foo;", "eats ^eaters;", "eats ^Eater;", "eats ^spoon;", "eats 1^?;", "eats ^?;", "eats 1^:2;", "eats 1^.5;", "eats ^!1;", "eats ^_;", "guilty 1^!1;"}) dueFaultAt(1, m);
    }

    static void p12_lettersAndDigitsEndWhereTheyEnd() {
        for (String m : new String[] {"eats eater^@;", "eats eater^[;", "eats eater^`;", "eats eater^{;", "eats 9^:;", "^eatsA 1;", "^eatsZ 1;", "^eatsa 1;", "^eatsz 1;", "eats ^eaterA;", "eats ^eaterz;", "eats 0^ A;", "eats 9^a;"}) dueFaultAt(1, m);
        // The sign ahead of 0 is /, which can stand there; letters and digits part without a blank.
        for (String text : new String[] {"eats 9/0;", "eats0;", "eats9;", "sit0at0;", "spoon8of1;", "judge1;flies40;", "guilty1=1or1=1and1=1;", "guilty not1=1;", "eats eater/9;"}) dueFine(text);
    }

    static void p12_blanksAre32And10Alone() {
        dueFine(" \n eats \n\n 1 \n ; \n");
        for (char c : new char[] {0, 9, 11, 13, 31, 33, 127, 160, 255}) Run.dueFault(1, 5, "eats " + c + "1;");
    }

    static void p12_theLongestSign() {
        dueFine("guilty 1<=1;");
        dueFine("guilty 1>=1;");
        for (String m : new String[] {"guilty 1< ^=1;", "guilty 1> ^=1;", "guilty 1=^<1;", "guilty 1=^>1;", "guilty 1=^=1;", "guilty 1<^<1;", "guilty 1<^>1;", "guilty 1<=^=1;", "guilty 1<=^>1;", "guilty 1#^=1;", "guilty 1<\n^=1;"}) dueFaultAt(1, m);
        dueFine("guilty 1<=-1;");
    }

    static void p12_fault2_above9999() {
        for (String text : new String[] {"eats 9999;", "holds 9999;", "guilty 9999=9999;", "eats 0009999;", "eats 0;", "eats 00000000000000000000000;", "eats 1+(9999);"}) dueFine(text);
        for (String m : new String[] {"eats ^10000;", "holds ^10000;", "guilty ^10000=1;", "guilty 1=^10000;", "eats ^0010000;", "eats ^99999;", "eats 1+(^10000);", "eats ^2147483648;", "eats ^4294967296;", "eats ^18446744073709551616;",
            "eats ^100000000000000000000000000000000000000000000000;"}) dueFaultAt(2, m);
    }

    static void p12_fault2_eaters() {
        for (String text : new String[] {"sit 0 at 0;", "sit 8 at 0;", "spoon 0 of 0;", "spoon 8 of 0;", "sit 08 at 0;"}) dueFine(text);
        for (String m : new String[] {"sit ^9 at 0;", "sit ^10 at 0;", "sit ^10000 at 0;", "spoon ^9 of 0;", "spoon ^10000 of 0;", "sit ^4294967296 at 0;"}) dueFaultAt(2, m);
    }

    static void p12_fault2_whereTheySit() {
        for (String text : new String[] {"sit 0 at 0;", "sit 0 at 1;", "sit 0 at 2;"}) dueFine(text);
        for (String m : new String[] {"sit 0 at ^3;", "sit 0 at ^9;", "sit 0 at ^10000;"}) dueFaultAt(2, m);
    }

    static void p12_fault2_kinds() {
        for (String text : new String[] {"spoon 0 of 0;", "spoon 0 of 1;"}) dueFine(text);
        for (String m : new String[] {"spoon 0 of ^2;", "spoon 0 of ^10000;"}) dueFaultAt(2, m);
    }

    static void p12_fault2_sides() {
        for (String text : new String[] {"judge 0;", "judge 1;"}) dueFine(text);
        for (String m : new String[] {"judge ^2;", "judge ^10000;"}) dueFaultAt(2, m);
    }

    static void p12_fault2_flies() {
        for (String text : new String[] {"flies 1;", "flies 40;", "flies 01;"}) dueFine(text);
        for (String m : new String[] {"flies ^0;", "flies ^00;", "flies ^41;", "flies ^10000;", "flies ^4294967297;"}) dueFaultAt(2, m);
    }

    static void p12_fault3_brackets() {
        dueFine("eats " + Run.times(8, "(") + "1" + Run.times(8, ")") + ";");
        dueFaultAt(3, "eats " + Run.times(8, "(") + "^(1" + Run.times(9, ")") + ";");
        dueFaultAt(3, "holds 1*" + Run.times(8, "(") + "^(");
        dueFine("guilty 1=" + Run.times(8, "(") + "1" + Run.times(8, ")") + ";");
        dueFaultAt(3, "guilty 1=" + Run.times(8, "(") + "^(1");
    }

    static void p12_fault3_nots() {
        dueFine("guilty " + Run.times(8, "not ") + "1=1;");
        dueFaultAt(3, "guilty " + Run.times(8, "not ") + "^not 1=1;");
    }

    static void p12_fault3_minus() {
        dueFine("eats " + Run.times(8, "-") + "1;");
        dueFaultAt(3, "eats " + Run.times(8, "-") + "^-1;");
        // The first - behind a ONE is none of those.
        dueFine("eats 1" + Run.times(9, "-") + "1;");
        dueFaultAt(3, "eats 1" + Run.times(9, "-") + "^-1;");
    }

    static void p12_fault3_aroundOneAnother() {
        dueFine("eats " + Run.times(4, "-(") + "1" + Run.times(4, ")") + ";");
        dueFaultAt(3, "eats " + Run.times(4, "-(") + "^-1" + Run.times(4, ")") + ";");
        dueFaultAt(3, "eats " + Run.times(4, "-(") + "^(1)" + Run.times(4, ")") + ";");
        dueFine("guilty " + Run.times(3, "not ") + "---((1))=---((1));");
        dueFaultAt(3, "guilty " + Run.times(3, "not ") + "---((^(1)))=1;");
        dueFaultAt(3, "guilty " + Run.times(3, "not ") + "1=---((^-1));");
        dueFaultAt(3, "guilty " + Run.times(8, "not ") + "^-1=1;");
        dueFaultAt(3, "guilty " + Run.times(8, "not ") + "1=^(1);");
    }

    static void p12_fault3_whatIsClosedDoesntCount() {
        dueFine("eats (1)" + Run.times(9, "+(1)") + ";");
        dueFine("eats -1" + Run.times(9, "*-1") + ";");
        dueFine("eats -(1)" + Run.times(9, "/-(1)") + ";");
        dueFine("eats " + Run.times(8, "(") + "1" + Run.times(8, ")") + "+" + Run.times(8, "-") + "1-" + Run.times(8, "(") + "1" + Run.times(8, ")") + ";");
        dueFine("guilty not 1=1" + Run.times(9, " or not 1=1") + ";");
        dueFine("guilty " + Run.times(8, "not ") + "1=1 and " + Run.times(8, "not ") + "1=1 or " + Run.times(8, "-") + "1=" + Run.times(8, "(") + "1" + Run.times(8, ")") + ";");
        dueFaultAt(3, "guilty " + Run.times(8, "not ") + "1=1 and " + Run.times(8, "not ") + "^not 1=1;");
        dueFine("eats " + Run.times(8, "(") + "1" + Run.times(8, ")") + ";holds " + Run.times(8, "-") + "1;guilty " + Run.times(8, "not ") + "1=1;");
    }

    static void p12_fault4_forTheSecondTime() {
        dueFine("eats 1;holds 1;guilty 1=1;");
        dueFaultAt(4, "eats 1;^eats 1;");
        dueFaultAt(4, "holds 1;judge 1; ^holds");
        dueFaultAt(4, "guilty 1=1;eats 1;\n^guilty 1=1;");
        dueFine("judge 1;judge 1;flies 1;flies 1;sit 0 at 0;sit 0 at 0;spoon 0 of 0;spoon 0 of 0;");
    }

    static void p12_fault5_namesOfOtherClauses() {
        String[] names = {"eater", "hunger", "stomachs", "eaten", "kind", "left", "spoons", "side", "tilt", "honey", "salt", "dents"};
        for (int i = 0; i < names.length; i++) {
            if (i < 8) dueFine("eats " + names[i] + ";");
            else dueFaultAt(5, "eats ^" + names[i] + ";");
            if (i < 4) dueFine("holds 1-" + names[i] + ";");
            else dueFaultAt(5, "holds 1-^" + names[i] + ";");
            if (i >= 7) dueFine("guilty 1=(" + names[i] + ");");
            else dueFaultAt(5, "guilty 1=(^" + names[i] + ");");
        }
    }

    static void p12_fault6_twentyFourAndATwentyFifth() {
        dueFine(Run.times(23, "judge 1;"));
        dueFine(Run.times(24, "judge 1;"));
        dueFine(Run.times(24, "judge 1;") + " \n ");
        for (String verb : new String[] {"judge", "sit", "spoon", "flies", "eats", "holds", "guilty"}) dueFaultAt(6, Run.times(24, "judge 1;") + "^" + verb);
        dueFaultAt(6, Run.times(24, "judge 1;") + " \n^judge 2;");
        dueFaultAt(6, "eats 1;holds 1;guilty 1=1;" + Run.times(21, "judge 1;") + "^judge 1;");
    }

    static void p12_ofOneTokenTheLeast() {
        // 1 ahead of 2, 3, 5, 6; 4 ahead of 6.
        dueFaultAt(1, "eats 1^ 10000;");
        dueFaultAt(1, "judge 1^ 10000;");
        dueFaultAt(1, "^10000;");
        dueFaultAt(1, "eats " + Run.times(8, "(") + "1^(");
        dueFaultAt(1, "eats " + Run.times(8, "(") + "^not 1=1");
        dueFaultAt(1, "eats 1^ tilt;");
        dueFaultAt(1, "judge ^tilt;");
        dueFaultAt(1, Run.times(24, "judge 1;") + "^tilt");
        dueFaultAt(1, Run.times(24, "judge 1;") + "^;");
        dueFaultAt(4, "eats 1;" + Run.times(23, "judge 1;") + "^eats 1;");
    }

    static void p12_theFirstAsTokensAreComeTo() {
        dueFaultAt(2, "eats ^10000 ?");
        dueFaultAt(5, "eats ^tilt+10000;");
        dueFaultAt(1, "eats 1^?;eats 10000;");
        dueFaultAt(3, "eats " + Run.times(8, "-") + "^-tilt;");
        dueFaultAt(2, "sit ^9 at 3;");
        dueFaultAt(4, "eats 1;^eats tilt;?");
        dueFaultAt(6, Run.times(24, "judge 1;") + "^judge 2;?");
    }

    // Promise 13: by.

    static void p13_noTextsYet() { new Run().idle(false, "by", 0).idle(true, "by", -1).idle(false, "by", -2).idle(false, "by", LEAST).idle(false, "by", MOST).due(-1, "about", 5); }

    static void p13_theLastAndOneBeyond() {
        Run r = new Run();
        for (int t = 0; t < 4; t++) r.due(t, "text").due(true, "by", t).due(t, "about", 5).idle(false, "by", t + 1).idle(false, "by", -2).due(t, "about", 5);
        r.idle(false, "by", MOST).due(true, "by", 0).due(0, "about", 5).due(true, "by", -1).due(-1, "about", 5);
    }

    static void p13_aFaultyTextIsNone() { new Run().told(-1, "judge 2;").idle(false, "by", 0); }

    static void p13_goneBehindBack() {
        Run r = new Run().due(0, "text").due(true, "by", 0).due(0, "image").due(1, "text").due(true, "by", 1).due(0, "back").due(0, "about", 5).idle(false, "by", 1);
        r.due(1, "text").due(true, "by", 1);
    }

    static void p13_isNoStepAndStaysBehindUndo() { new Run().due(0, "text").due(0, "judge", 0).due(true, "by", 0).due(1, "about", 6).due(0, "undo").due(0, "about", 5); }

    static void p13_asItIsAlready() { new Run().due(0, "text").due(true, "by", 0).idle(true, "by", 0); }

    // Promise 14: played.

    static void p14_textBelow0() { new Run().told(0, "judge 1;").idle(-2, "played", -1).idle(-2, "played", -2).idle(-2, "played", LEAST).due(-1, "played", 0).due(1, "about", 2); }

    static void p14_textThatIsNotThere() {
        Run r = new Run().idle(-2, "played", 0);
        for (int t = 0; t < 4; t++) r.told(t, "judge 1;").due(-1, "played", t).due(t + 1, "about", 2).idle(-2, "played", t + 1);
        r.idle(-2, "played", MOST);
    }

    static void p14_aTextWithNothingToDo() { new Run().due(0, "text").idle(-1, "played", 0).told(1, "eats 1;holds 1;guilty 1=1;").idle(-1, "played", 1); }

    static void p14_theFirstCantBe() { new Run().told(0, "sit 0 at 0;judge 1;").idle(0, "played", 0).due(0, "about", 2); }

    static void p14_theLastCantBe() {
        new Run().told(0, Run.times(23, "judge 1;") + "sit 0 at 1;").due(23, "played", 0).due(23, "about", 2).due(23, "about", 6);
    }

    static void p14_lawsCountAmongTheClauses() { new Run().told(0, "eats 1;holds 1;guilty 1=1;sit 0 at 1;").idle(3, "played", 0).told(1, "sit 0 at 1;eats 1;holds 1;").idle(0, "played", 1); }

    static void p14_whatWasDoneStaysAndTheRestIsNotDone() {
        new Run().told(0, "judge 0;judge 1;sit 0 at 1;judge 0;").due(2, "played", 0).due(2, "about", 2).due(2, "about", 6).due(1, "undo").due(1, "about", 2);
    }

    static void p14_eaterWhoIsNotThere() {
        Run r = new Run().told(0, "sit 8 at 1;").told(1, "spoon 8 of 0;");
        for (int e = 0; e < 9; e++) r.idle(0, "played", 0).idle(0, "played", 1).due(e, "eater", 1, 1, 1);
        r.due(-1, "played", 0).due(1, "of", 8, 3).idle(0, "played", 1).due(true, "pot", 1, 0, 1).due(-1, "played", 1).due(1, "of", 8, 4);
    }

    static void p14_soAlready() {
        new Run().due(0, "eater", 1, 1, 1).told(0, "sit 0 at 2;").idle(0, "played", 0).told(1, "sit 0 at 0;sit 0 at 1;sit 0 at 2;sit 0 at 2;").due(3, "played", 1).due(3, "about", 6);
    }

    static void p14_sixtySpoons() {
        Run r = new Run().due(true, "pot", 0, 0, 999).seated(0, 9, 0, 0).told(0, Run.times(20, "spoon 0of 0;"));
        for (int i = 1; i <= 3; i++) r.due(-1, "played", 0).due(20 * i, "written", -1, 0);
        r.idle(0, "played", 0).due(29, "undo").due(1, "played", 0).due(60, "written", -1, 0).idle(0, "played", 0);
    }

    static void p14_thirtyDents() {
        new Run().told(0, Run.times(20, "judge 0;")).due(-1, "played", 0).due(20, "about", 2).due(10, "played", 0).due(30, "about", 2).idle(0, "played", 0);
    }

    static void p14_notByItsOwnLaws() {
        Run r = Run.pots(50, 0, 0, 0).due(0, "eater", 3, 1, 0).told(0, "eats 9;guilty 1=1;sit 0 at 0;spoon 0 of 0;judge 0;").due(-1, "played", 0);
        r.due(4, "written", 0, 3).due(0, "dent", 0, 2).due(true, "by", 0).due(true, "sit", 0, 2).due(-1, "played", 0).due(9, "written", 1, 3).due(1, "dent", 1, 2);
    }

    static void p14_fliesAtTheirMost() { Run.pots(99, 99, 99, 99).told(0, "flies 1;flies 40;").due(-1, "played", 0).due(2, "about", 6).due(1, "undo").due(644, "about", 3); }

    static void p14_moreStepsThanCanBeTakenBack() {
        Run r = new Run().told(0, Run.times(24, "flies 1;")).due(-1, "played", 0).due(24, "about", 6).due(-1, "played", 0).due(30, "about", 6);
        for (int i = 29; i >= 0; i--) r.due(i, "undo");
        r.idle(-1, "undo");
    }

    // Promise 15: undo.

    static void p15_thereIsNone() { new Run().idle(-1, "undo").due(0, "eater", 1, 1, 1).due(true, "pot", 0, 0, 5).due(true, "seed", 5).idle(-1, "undo"); }

    static void p15_theOnlyOne() { new Run().due(0, "judge", 0).due(0, "undo").idle(-1, "undo").due(0, "about", 2); }

    static void p15_thirty() {
        Run r = new Run();
        for (int i = 1; i <= 30; i++) r.due(0, "judge", 0).due(i, "about", 6);
        for (int i = 29; i >= 0; i--) r.due(i, "undo").due(i, "about", 2);
        r.idle(-1, "undo");
    }

    static void p15_thirtyOne() {
        Run r = Run.pots(1, 0, 0, 0).seated(0, 1, 0, 0);
        for (int i = 1; i <= 29; i++) r.due(0, "judge", 0).due(i + 1, "about", 6);
        r.due(1, "spoon", 0, 0).due(30, "about", 6).due(29, "undo").due(1, "spoon", 0, 0).due(30, "about", 6);
        for (int i = 29; i >= 0; i--) r.due(i, "undo");
        r.idle(-1, "undo").due(0, "of", 0, 3).due(1, "about", 10).due(0, "about", 2);
    }

    static void p15_asManyAgain() {
        Run r = new Run();
        for (int i = 1; i <= 35; i++) r.due(0, "flies", 1).due(Math.min(i, 30), "about", 6);
        for (int i = 29; i >= 10; i--) r.due(i, "undo");
        for (int i = 11; i <= 40; i++) r.due(0, "flies", 1).due(Math.min(i, 30), "about", 6);
        for (int i = 29; i >= 0; i--) r.due(i, "undo");
        r.idle(-1, "undo");
    }

    /** Behind 31 STEPS all is as it was behind the first. */
    static void p15_theFirstOfThirtyOneStays() {
        Run one = Run.pots(20, 20, 20, 20).due(1, "flies", 1);
        Run r = Run.pots(20, 20, 20, 20).due(1, "flies", 1);
        long x = one.call("about", 3);
        for (int i = 0; i < 30; i++) r.due(1, "flies", 1);
        for (int i = 29; i >= 0; i--) r.due(i, "undo");
        r.idle(-1, "undo").due(x, "about", 3).due(20, "about", 10).due(20, "about", 11).due(20, "about", 12).due(19, "about", 13);
    }

    static void p15_refusedOnesAreNoSteps() {
        Run r = new Run().due(0, "eater", 1, 1, 1).due(true, "sit", 0, 0).due(false, "sit", 0, 0).due(-1, "spoon", 0, 0).due(-1, "judge", 2).due(-1, "flies", 0).due(-1, "flies", 41);
        r.due(1, "about", 6).due(0, "undo").due(2, "of", 0, 3);
    }

    static void p15_allIsAsAheadOfIt() {
        Run before = Run.pots(9, 8, 7, 6).seated(2, 1, 0, 0);
        before.dueAsIn(Run.pots(9, 8, 7, 6).seated(2, 1, 0, 0).due(true, "sit", 0, 1).due(1, "undo"));
        before.dueAsIn(Run.pots(9, 8, 7, 6).seated(2, 1, 0, 0).due(3, "spoon", 0, 1).due(1, "undo"));
        before.dueAsIn(Run.pots(9, 8, 7, 6).seated(2, 1, 0, 0).due(1, "judge", 1).due(1, "undo"));
        before.dueAsIn(Run.pots(9, 8, 7, 6).seated(2, 1, 0, 0).due(29, "flies", 40).due(1, "undo"));
        before.dueAsIn(Run.pots(9, 8, 7, 6).seated(2, 1, 0, 0).due(3, "spoon", 0, 1).due(true, "pot", 0, 0, 99).due(true, "seed", 9).due(1, "undo"));
    }

    static void p15_eatersToldSinceStay() {
        Run r = new Run().due(0, "eater", 1, 1, 1).due(true, "sit", 0, 0);
        for (int e = 1; e < 9; e++) r.due(e, "eater", e, e, e);
        r.due(true, "sit", 8, 1).due(1, "undo").due(2, "of", 8, 3).due(0, "undo").due(9, "about", 0).due(8, "of", 8, 0).due(2, "of", 0, 3).due(-1, "eater", 1, 1, 1);
    }

    static void p15_stepsOfTheImage() {
        Run r = new Run().due(0, "judge", 0).due(0, "judge", 1).due(0, "image").due(1, "undo").due(0, "undo").due(-1, "undo").due(0, "back").due(2, "about", 6);
        r.due(1, "undo").due(1, "about", 2).due(0, "undo").due(0, "about", 2).due(-1, "undo");
    }
}
