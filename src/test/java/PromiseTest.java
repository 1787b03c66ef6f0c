/** For each promise of the document: ordinary calls, the edges that it names, and wrong inputs. */
public final class PromiseTest {
    private static final int LEAST = Integer.MIN_VALUE;
    private static final int MOST = Integer.MAX_VALUE;
    private static int wrong = 0;
    private static int promise = 0;

    private static void due(String what, long got, long want) {
        if (got != want) {
            wrong++;
            System.out.println("promise " + promise + ": " + what + " answered " + got + ", due is " + want);
        }
    }

    private static void due(String what, boolean got, boolean want) { due(what, got ? 1 : 0, want ? 1 : 0); }

    /** The text on the tape, as a person would bring it there. */
    private static void tape(SpoonScales x, String text) {
        for (int at = 0; at < text.length(); at += 20) {
            int[] f = new int[5];
            for (int i = 0; i < 20; i++) f[i / 4] |= (at + i < text.length() ? text.charAt(at + i) : 32) << (24 - 8 * (i % 4));
            x.feed(f[0], f[1], f[2], f[3], f[4]);
        }
        due("end(" + text.length() + ")", x.end(text.length()), text.length());
    }

    private static int told(SpoonScales x, String text) {
        tape(x, text);
        return x.text();
    }

    private static void ruledBy(SpoonScales x, String text) {
        int number = told(x, text);
        due("text() of " + text, number >= 0, true);
        due("by(" + number + ")", x.by(number), true);
    }

    private static void dueFault(String text, int kind, int place) {
        SpoonScales x = new SpoonScales();
        due("text() of " + text, told(x, text), kind == 0 ? 0 : -1);
        due("fault(0) of " + text, x.fault(0), kind);
        due("fault(1) of " + text, x.fault(1), place);
    }

    private static void dueDeep(String text, boolean fine) {
        SpoonScales x = new SpoonScales();
        due("text() of " + text, told(x, text), fine ? 0 : -1);
        due("fault(0) of " + text, x.fault(0), fine ? 0 : 3);
    }

    private static String times(int n, String s) {
        StringBuilder b = new StringBuilder();
        for (int i = 0; i < n; i++) b.append(s);
        return b.toString();
    }

    private static SpoonScales pots(int a, int b, int c, int d) {
        SpoonScales x = new SpoonScales();
        x.pot(0, 0, a);
        x.pot(0, 1, b);
        x.pot(1, 0, c);
        x.pot(1, 1, d);
        return x;
    }

    private static int seated(SpoonScales x, int hunger, int stomachs, int price, int side) {
        int e = x.eater(hunger, stomachs, price);
        x.sit(e, side);
        return e;
    }

    public static void main(String[] args) {
        Runnable[] all = {
            PromiseTest::newObject, PromiseTest::pot, PromiseTest::eater, PromiseTest::seed, PromiseTest::sit, PromiseTest::spoon,
            PromiseTest::judge, PromiseTest::flies, PromiseTest::feed, PromiseTest::end, PromiseTest::text, PromiseTest::fault,
            PromiseTest::by, PromiseTest::played, PromiseTest::undo, PromiseTest::of, PromiseTest::written, PromiseTest::dent,
            PromiseTest::called, PromiseTest::acquitted, PromiseTest::sets, PromiseTest::tested, PromiseTest::fits, PromiseTest::next,
            PromiseTest::hired, PromiseTest::contrary, PromiseTest::odds, PromiseTest::tell, PromiseTest::liars,
            PromiseTest::inWhoseName, PromiseTest::image, PromiseTest::back, PromiseTest::about};
        for (Runnable one : all) {
            promise++;
            one.run();
        }
        System.out.println(wrong == 0 ? promise + " promises are as due" : wrong + " answers are not as due");
        if (wrong != 0) System.exit(1);
    }

    static void newObject() {
        SpoonScales x = new SpoonScales();
        int[] about = {0, 10000, 0, 3, 0, -1, 0, 0, 0, 0, 0, 0, 0, 0};
        for (int i = 0; i < about.length; i++) due("about(" + i + ")", x.about(i), about[i]);
        due("of(0, 0)", x.of(0, 0), -2);
        due("written", x.written(-1, 0), 0);
        due("dent", x.dent(-1, 0), 0);
        due("fits", x.fits(), 1023);
        x.eater(1, 1, 1);
        x.pot(1, 1, 7);
        x.seed(7);
        x.tested(0, 0);
        x.tell(0, 1);
        x.sit(0, 1);
        due("spoon", x.spoon(0, 1), 2);
        due("back() to the new object", x.back(), 0);
        for (int i = 0; i < about.length; i++) due("about(" + i + ") behind back", x.about(i), about[i]);
        due("fits behind back", x.fits(), 1023);
        due("eater behind back", x.eater(0, 1, 0), 0);
        due("where behind back", x.of(0, 3), 2);
        due("eaten behind back", x.of(0, 4), 0);
        due("NONE", SpoonScales.NONE, -1);
    }

    static void pot() {
        SpoonScales x = new SpoonScales();
        for (int p = 0; p < 4; p++) {
            due("pot", x.pot(p / 2, p % 2, 999 - p), true);
            due("about", x.about(10 + p), 999 - p);
        }
        due("pot 0", x.pot(1, 0, 0), true);
        due("about", x.about(12), 0);
        due("pot again", x.pot(1, 0, 0), true);
        int[][] others = {{-1, 0, 1}, {2, 0, 1}, {0, -1, 1}, {0, 2, 1}, {0, 0, -1}, {0, 0, 1000}, {LEAST, LEAST, LEAST}, {MOST, MOST, MOST}};
        for (int[] o : others) due("pot of others", x.pot(o[0], o[1], o[2]), false);
        due("about", x.about(10), 999);
        due("no step", x.about(6), 0);
    }

    static void eater() {
        SpoonScales x = new SpoonScales();
        int[][] others = {{-1, 1, 0}, {10, 1, 0}, {0, 0, 0}, {0, 10, 0}, {0, 1, -1}, {0, 1, 100}, {LEAST, 1, 0}, {MOST, MOST, MOST}};
        for (int[] o : others) due("eater of others", x.eater(o[0], o[1], o[2]), -1);
        for (int i = 0; i < 9; i++) due("eater", x.eater(i, 9 - i, 11 * i), i);
        due("a tenth", x.eater(1, 1, 1), -1);
        for (int i = 0; i < 9; i++) {
            due("hunger", x.of(i, 0), i);
            due("stomachs", x.of(i, 1), 9 - i);
            due("price", x.of(i, 2), 11 * i);
            due("where", x.of(i, 3), 2);
            due("eaten", x.of(i, 4), 0);
        }
        due("about(0)", x.about(0), 9);
    }

    static void seed() {
        SpoonScales x = new SpoonScales();
        due("seed(9999)", x.seed(9999), true);
        due("X", x.about(3), 49998);
        x.pot(1, 0, 1);
        due("flies by 49998 mod 4 = 2", x.flies(1), 1);
        due("X then", x.about(3), (int) ((49998L * 181 + 101) % 30029));
        due("seed(0)", x.seed(0), true);
        due("X", x.about(3), 3);
        due("seed(-1)", x.seed(-1), false);
        due("seed(10000)", x.seed(10000), false);
        due("seed(LEAST)", x.seed(LEAST), false);
        due("X", x.about(3), 3);
    }

    static void sit() {
        SpoonScales x = new SpoonScales();
        due("nobody is there", x.sit(0, 0), false);
        x.eater(1, 1, 1);
        due("away already", x.sit(0, 2), false);
        due("sit", x.sit(0, 1), true);
        due("so already", x.sit(0, 1), false);
        due("to the other", x.sit(0, 0), true);
        due("where", x.of(0, 3), 0);
        due("away", x.sit(0, 2), true);
        due("where", x.of(0, 3), 2);
        for (int side : new int[] {-1, 3, LEAST, MOST}) due("side " + side, x.sit(0, side), false);
        for (int e : new int[] {-1, 1, 8, 9, LEAST, MOST}) due("eater " + e, x.sit(e, 0), false);
        due("steps", x.about(6), 3);
    }

    static void spoon() {
        SpoonScales x = pots(7, 100, 3, 0);
        int a = seated(x, 4, 1, 0, 0);
        x.eater(9, 9, 9);
        due("away", x.spoon(1, 0), -1);
        due("hunger and 1", x.spoon(a, 0), 5);
        due("no more than is left", x.spoon(a, 0), 2);
        due("nothing is left", x.spoon(a, 0), -1);
        due("salt", x.spoon(a, 1), 5);
        due("salt", x.spoon(a, 1), 5);
        due("no more than it holds", x.spoon(a, 1), 3);
        due("it holds no more", x.spoon(a, 1), -1);
        due("eaten", x.of(a, 4), 20);
        due("salt left", x.about(11), 87);
        int[][] others = {{-1, 0}, {2, 0}, {0, -1}, {0, 2}, {LEAST, 0}, {MOST, 1}};
        for (int[] o : others) due("spoon of others", x.spoon(o[0], o[1]), -1);
        due("five spoons", x.written(-1, 0), 5);
        due("six steps", x.about(6), 6);

        SpoonScales y = pots(999, 0, 0, 0);
        seated(y, 0, 9, 0, 0);
        for (int i = 0; i < 60; i++) due("spoon " + i, y.spoon(0, 0), 1);
        due("a 61st", y.spoon(0, 0), -1);
        due("sixty", y.written(-1, 0), 60);
        due("the last", y.written(59, 3), 1);
        due("none behind it", y.written(60, 3), -2);
        due("undo", y.undo(), 29);
        due("again", y.spoon(0, 0), 1);

        SpoonScales z = pots(500, 500, 500, 500);
        seated(z, 3, 2, 0, 1);
        ruledBy(z, "eats 1000*eater+hunger*10+kind+side*2+spoons*4;");
        due("by law", z.spoon(0, 0), 32);
        due("by law, behind one", z.spoon(0, 1), 8);
        ruledBy(z, "eats 100;holds 9999;");
        due("99 at most", z.spoon(0, 0), 99);
        ruledBy(z, "eats 0-1;holds 9999;");
        due("0 at least", z.spoon(0, 0), -1);
        ruledBy(z, "eats left/10+eaten;holds 160;");
        due("left and eaten: 36 and 139, but 160 held", z.spoon(0, 0), 21);
    }

    static void judge() {
        SpoonScales x = pots(1, 0, 0, 2);
        due("side 0 is guilty below 0", x.judge(0), 1);
        due("side 1 isn't", x.judge(1), 0);
        x.pot(0, 1, 1);
        due("level: 0 isn't", x.judge(0), 0);
        due("level: 1 isn't", x.judge(1), 0);
        x.pot(0, 1, 2);
        due("side 0 isn't above 0", x.judge(0), 0);
        due("side 1 is", x.judge(1), 1);
        for (int side : new int[] {-1, 2, LEAST, MOST}) due("judge " + side, x.judge(side), -1);
        due("dents", x.about(2), 6);
        ruledBy(x, "guilty dents=6 and side=1 and tilt=1 and honey=0 and salt=2;");
        due("by law", x.judge(1), 1);
        due("a dent more", x.judge(1), 0);
        for (int i = 8; i < 30; i++) due("judge", x.judge(0), 0);
        due("a 31st", x.judge(0), -1);
        due("dents", x.about(2), 30);
        due("undo", x.undo(), 29);
        due("judge again", x.judge(0), 0);

        String[] yes = {"1<2", "2<=2", "3>2", "2>=2", "2=2", "1#2", "not 1=2", "not not 1=1", "1=2 or 1=1", "1=1 or 1=2 and 1=2",
            "not 1=2 and 1=1", "1=2 and 1=2 or 1=1", "not 1=1 or 1=1"};
        String[] no = {"2<2", "3<=2", "2>2", "1>=2", "2=1", "2#2", "not 1=1", "1=1 and 1=2", "1=2 or 1=2", "1=2 and 1=1",
            "not 1=1 and 1=2", "not not not 1=1"};
        for (String s : yes) dueVerdict(s, 1);
        for (String s : no) dueVerdict(s, 0);
        String[] sums = {"2+3*4=14", "(2+3)*4=20", "10-3-2=5", "100/7/2=7", "-7/2=-3", "7/-2=-3", "5/0=0", "--3=3", "2--3=5", "-(1+2)*3=-9",
            "9999*9999=1000*1000", "-9999*9999=-1000*1000", "9999*9999-1=1000*1000-1", "9999*9999*0+1=1", "9999*100+9999=1000*1000",
            "-9999*100-9999=-1000*1000", "9999*9999*9999/1000=1000", "2*3/4=1", "2/4*3=0", "-1-1=-2", "3*-2=-6"};
        for (String s : sums) dueVerdict(s, 1);
    }

    private static void dueVerdict(String law, int want) {
        SpoonScales x = new SpoonScales();
        ruledBy(x, "guilty " + law + ";");
        due("judge by " + law, x.judge(0), want);
    }

    static void flies() {
        SpoonScales x = pots(1, 1, 1, 1);
        due("draws 3, 0, 2, 3 ..", x.flies(4), 3);
        due("pot 3", x.about(13), 0);
        due("pot 0", x.about(10), 0);
        due("pot 2", x.about(12), 0);
        due("pot 1", x.about(11), 1);
        int draw = 3;
        for (int i = 0; i < 4; i++) draw = (draw * 181 + 101) % 30029;
        due("X", x.about(3), draw);
        for (int n : new int[] {0, -1, 41, LEAST, MOST}) due("flies " + n, x.flies(n), -1);
        due("X", x.about(3), draw);
        SpoonScales y = pots(999, 999, 999, 999);
        due("40", y.flies(40), 40);
        SpoonScales z = new SpoonScales();
        due("none is gone", z.flies(40), 0);
        due("but it is a step", z.about(6), 1);
    }

    static void feed() {
        SpoonScales x = new SpoonScales();
        for (int i = 1; i <= 15; i++) due("feed", x.feed(0, 0, 0, 0, 0), 20 * i);
        due("a 16th", x.feed(0, 0, 0, 0, 0), -1);
        due("tape", x.about(9), 300);
        x.end(281);
        due("281 and 20", x.feed(0, 0, 0, 0, 0), -1);
        due("tape", x.about(9), 281);
        x.end(280);
        due("280 and 20", x.feed(0, 0, 0, 0, 0), 300);
        SpoonScales y = new SpoonScales();
        // "juDg": the highest byte comes first; bytes above 127 are none of the letters.
        due("feed", y.feed(0x6a756467, 0x65203120, 0x3b202020, 0x20202020, 0x202020e9), 20);
        due("text", y.text(), -1);
        due("fault", y.fault(0), 1);
        due("at the last byte", y.fault(1), 19);
    }

    static void end() {
        SpoonScales x = new SpoonScales();
        due("end(0) of none", x.end(0), 0);
        due("end(1) of none", x.end(1), -1);
        x.feed(1, 2, 3, 4, 5);
        due("end(20)", x.end(20), 20);
        due("end(21)", x.end(21), -1);
        due("end(-1)", x.end(-1), -1);
        due("end(LEAST)", x.end(LEAST), -1);
        due("end(MOST)", x.end(MOST), -1);
        due("tape", x.about(9), 20);
        due("end(3)", x.end(3), 3);
        due("tape", x.about(9), 3);
        due("end(4)", x.end(4), -1);
        due("feed behind it", x.feed(0, 0, 0, 0, 0), 23);
    }

    static void text() {
        SpoonScales x = new SpoonScales();
        due("an empty one", x.text(), 0);
        due("it has no fault", x.fault(0), 0);
        due("nor a place", x.fault(1), -1);
        due("played", x.played(0), -1);
        due("a wrong one", told(x, "judge 2;"), -1);
        due("the tape is empty then", x.about(9), 0);
        due("texts", x.about(4), 1);
        due("the second", told(x, "judge 1;"), 1);
        due("the third", told(x, " \n \n"), 2);
        due("the fourth", told(x, "eats1;holds2;guilty1=1;sit 0at 0;spoon0of0;judge0;flies1;"), 3);
        tape(x, "judge 2;");
        due("a fifth", x.text(), -1);
        due("the tape stays", x.about(9), 8);
        due("it was not read", x.fault(0), 0);
        due("texts", x.about(4), 4);
        // A text of 300 bytes, all of them read.
        String longest = "eats 1" + times(146, "+1") + ";;";
        dueFault(longest.substring(0, 299), 0, -1);
        due("300", longest.length(), 300);
        dueFault(longest, 1, 299);
        dueFault(times(24, "judge 1;"), 0, -1);
    }

    static void fault() {
        SpoonScales x = new SpoonScales();
        for (int w : new int[] {-1, 0, 1, 2, LEAST, MOST}) due("ahead of any", x.fault(w), -1);
        told(x, "judge 7;");
        due("fault", x.fault(0), 2);
        due("place", x.fault(1), 6);
        for (int w : new int[] {-1, 2, LEAST, MOST}) due("others", x.fault(w), -1);
        x.image();
        told(x, "judge 1;");
        due("fault", x.fault(0), 0);
        due("place", x.fault(1), -1);
        x.back();
        due("the image has no fault", x.fault(0), 0);
        placesOfFaults();
        numbersOfFaults();
        depthsOfFaults();
        namesOfFaults();
    }

    private static void placesOfFaults() {
        String[] ends = {"eats", "eats 1", "eats (1", "eats -", "eats 1+", "eats (1)", "guilty", "guilty not", "guilty 1", "guilty 1<", "guilty 1<2",
            "guilty 1<2 or", "guilty 1<2 and ", "sit", "sit 1", "sit 1 at", "sit 1 at 1", "spoon", "spoon 1", "spoon 1 of", "spoon 1 of 1",
            "judge", "judge 1", "flies", "flies 1", "judge 1;\n  judge 1 \n"};
        for (String s : ends) dueFault(s, 1, s.length());
        // What can't stand at the place of ^.
        String[] wrongs = {"^eat 1;", "^EATS 1;", "^eatss 1;", "^eatsz 1;", "^eatsa 1;", "^eatsA 1;", "^eatsZ 1;", "eats 1^@;", "eats 1^[;", "eats 1^`;", "eats 1^{;", "eats 1^:;", "^1;", "^;", "^<", "^?", "^eater;", "^at 1", "^or", "judge 1^ 1;", "judge ^eater;",
            "judge 1;^;", "eats ^;", "eats 1^ 1;", "eats 1^ hunger;", "eats 1^ (1);", "eats 1^);", "eats (1^;", "eats (^);", "eats 1^ not;",
            "eats ^not 1<2;", "eats 1^<2;", "eats ^+1;", "eats 1+^+1;", "eats 1*^/1;", "eats 1^ and 1;", "eats ^eats;", "eats 1^?;", "eats ^?;",
            "guilty 1^;", "guilty 1<2^<3;", "guilty (1^<2);", "guilty 1<2^ not;", "guilty 1<^not 2;", "guilty (^not 1<2);", "guilty -^not 1<2;",
            "guilty 1+^not 1<2;", "guilty 1^ or 1<2;", "guilty 1^ and 1<2;", "guilty 1<2 or ^or 1<2;", "guilty 1<2 and^;", "guilty not^;", "guilty 1=^=1;",
            "guilty 1=^<1;", "guilty 1=^>1;", "guilty 1<^>1;", "guilty 1< ^=1;", "guilty 1<(2^ or 3);", "guilty ^guilty;", "guilty 1<2^ eats 1;",
            "sit ^at 1;", "sit 1^ 1;", "sit 1 ^of 1;", "sit 1 at ^;", "sit 1 at 1^ 1;", "sit ^-1 at 1;", "spoon 1 ^at 1;", "spoon ^(1) of 1;",
            "flies ^hunger;", "eats 1^\t;", "eats ^\0;", "eats ^_;", "eats spoons^10000;"};
        for (String s : wrongs) dueWrong(s, 1);
    }

    private static void dueWrong(String marked, int kind) {
        int place = marked.indexOf('^');
        String text = marked.substring(0, place) + marked.substring(place + 1);
        while (place < text.length() && text.charAt(place) == ' ') place++;
        dueFault(text, kind, place);
    }

    private static void numbersOfFaults() {
        String[] wrongs = {"eats ^10000;", "eats ^99999999999999999999;", "eats 1+^00010000;", "holds 2*(^10000);", "guilty ^10000<1;",
            "sit ^9 at 0;", "sit ^10000 at 0;", "sit 0 at ^3;", "spoon ^9 of 0;", "spoon 8 of ^2;", "judge ^2;", "flies ^0;", "flies ^41;",
            "flies ^4294967297;", "judge 1;judge ^2;sit 9"};
        for (String s : wrongs) dueWrong(s, 2);
        String[] fine = {"eats 9999;", "eats 00000000000000009999;", "sit 8 at 2;", "sit 00 at 0;", "spoon 8 of 1;", "judge 1;", "flies 1;", "flies 40;"};
        for (String s : fine) dueFault(s, 0, -1);
    }

    private static void depthsOfFaults() {
        dueDeep("eats " + times(8, "(") + "1" + times(8, ")") + ";", true);
        dueDeep("eats " + times(9, "(") + "1" + times(9, ")") + ";", false);
        dueDeep("eats " + times(8, "-") + "1;", true);
        dueDeep("eats " + times(9, "-") + "1;", false);
        dueDeep("eats " + times(4, "-(") + "1" + times(4, ")") + ";", true);
        dueDeep("eats " + times(4, "-(") + "-1" + times(4, ")") + ";", false);
        dueDeep("eats " + times(8, "-") + "1+" + times(8, "-") + "1*" + times(8, "-") + "1;", true);
        dueDeep("eats " + times(20, "(1)*") + times(7, "-") + "(1);", true);
        dueDeep("eats " + times(7, "(") + "-1+-1--1" + times(7, ")") + "-(-1);", true);
        dueDeep("eats -(1+1)" + times(8, "-") + "1;", true);
        dueDeep("guilty " + times(8, "not ") + "1=1;", true);
        dueDeep("guilty " + times(8, "not ") + "-1=1;", false);
        dueDeep("guilty " + times(8, "not ") + "1=-1;", false);
        dueDeep("guilty " + times(8, "not ") + "1=(1);", false);
        dueDeep("guilty " + times(7, "not ") + "-1=-1;", true);
        dueDeep("guilty " + times(7, "not ") + "-1=-1 and " + times(8, "not ") + "1=1 or " + times(7, "not ") + "(1)=(1);", true);
        dueDeep("guilty " + times(9, "not ") + "1=1;", false);
        // Where it can't stand that is what counts; else the ninth is the fault, whatever comes behind it.
        dueFault("eats " + times(8, "(") + "1(", 1, 14);
        dueFault("eats " + times(9, "-"), 3, 13);
        dueFault("guilty " + times(8, "not ") + "(", 3, 39);
    }

    private static void namesOfFaults() {
        String[] names = {"eater", "hunger", "stomachs", "eaten", "kind", "left", "spoons", "side", "tilt", "honey", "salt", "dents"};
        for (int i = 0; i < names.length; i++) {
            dueFault("eats " + names[i] + ";", i < 8 ? 0 : 5, i < 8 ? -1 : 5);
            dueFault("holds 1+" + names[i] + ";", i < 4 ? 0 : 5, i < 4 ? -1 : 8);
            dueFault("guilty 1=" + names[i] + ";", i >= 7 ? 0 : 5, i >= 7 ? -1 : 9);
            dueFault("eats 1 " + names[i] + ";", 1, 7);
            dueFault("judge " + names[i] + ";", 1, 6);
        }
        dueFault("eats 1;holds 1;eats 2;", 4, 15);
        dueFault("holds 1;holds", 4, 8);
        dueFault("guilty 1=1; guilty", 4, 12);
        dueFault(times(24, "judge 1;") + " judge 1;", 6, 193);
        dueFault(times(24, "judge 1;") + " tilt", 1, 193);
        dueFault(times(24, "judge 1;") + "eats 1;", 6, 192);
        dueFault("eats 1;" + times(23, "judge 1;") + "eats 1;", 4, 191);
        dueFault(times(24, "judge 1;") + "  ", 0, -1);
    }

    static void by() {
        SpoonScales x = new SpoonScales();
        due("by(0)", x.by(0), false);
        due("by(NONE)", x.by(-1), true);
        x.eater(3, 2, 0);
        told(x, "holds 7;");
        due("no law yet", x.of(0, 5), 40);
        due("by(0)", x.by(0), true);
        due("about", x.about(5), 0);
        due("by law", x.of(0, 5), 7);
        for (int t : new int[] {-2, 1, 4, LEAST, MOST}) due("by " + t, x.by(t), false);
        due("about", x.about(5), 0);
        due("by(NONE)", x.by(-1), true);
        due("about", x.about(5), -1);
        due("no law more", x.of(0, 5), 40);
    }

    static void played() {
        SpoonScales x = pots(20, 20, 20, 20);
        for (int t : new int[] {-1, 0, 4, LEAST, MOST}) due("played " + t, x.played(t), -2);
        x.eater(1, 1, 1);
        told(x, "eats 7; sit 0 at 1; spoon 0 of 1; holds 1; judge 0; flies 3; guilty 1=1; sit 0 at 2;");
        due("played", x.played(0), -1);
        due("not ruled by it", x.written(0, 3), 2);
        due("side", x.written(0, 1), 1);
        due("dent", x.dent(0, 2), 0);
        due("steps", x.about(6), 5);
        due("away", x.of(0, 3), 2);
        told(x, "eats 7; judge 1; sit 0 at 2; judge 1;");
        due("it sits so already", x.played(1), 2);
        due("what was done stays", x.about(2), 2);
        told(x, "sit 1 at 0;");
        due("nobody such", x.played(2), 0);
        told(x, "spoon 0 of 0;");
        due("away", x.played(3), 0);
        SpoonScales y = new SpoonScales();
        told(y, times(24, "judge 1;"));
        due("24", y.played(0), -1);
        due("6 more", y.played(0), 6);
        due("none", y.played(0), 0);
    }

    static void undo() {
        SpoonScales x = pots(9, 9, 9, 9);
        due("there is none", x.undo(), -1);
        x.eater(2, 1, 0);
        x.sit(0, 0);
        x.spoon(0, 0);
        x.judge(0);
        x.flies(9);
        x.eater(4, 4, 4);
        x.seed(8);
        x.pot(1, 1, 500);
        x.tell(0, 5);
        x.tested(0, 1);
        due("undo", x.undo(), 3);
        due("X as ahead", x.about(3), 3);
        due("pots as ahead", x.about(13), 9);
        due("pots as ahead", x.about(10), 6);
        due("eaters stay", x.about(0), 2);
        due("as told", x.of(1, 0), 4);
        due("told stays", x.about(8), 1);
        due("tested stays", x.about(7), 1);
        due("dents", x.about(2), 1);
        due("undo", x.undo(), 2);
        due("dents", x.about(2), 0);
        due("undo", x.undo(), 1);
        due("spoons", x.written(-1, 0), 0);
        due("eaten", x.of(0, 4), 0);
        due("honey", x.about(10), 9);
        x.pot(0, 0, 5);
        due("undo", x.undo(), 0);
        due("where", x.of(0, 3), 2);
        due("the pot is as ahead of the step", x.about(10), 9);
        due("undo", x.undo(), -1);
        SpoonScales y = new SpoonScales();
        y.pot(0, 0, 100);
        for (int i = 0; i < 40; i++) y.flies(1);
        due("30 at most", y.about(6), 30);
        int left = y.about(10);
        for (int i = 29; i >= 0; i--) due("undo", y.undo(), i);
        due("no more", y.undo(), -1);
        due("some honey is back", y.about(10) > left, true);
        due("but not all", y.about(10) < 100, true);
    }

    static void of() {
        SpoonScales x = pots(4, 0, 9, 9);
        x.eater(5, 3, 42);
        int[] away = {5, 3, 42, 2, 0, 60, 0, 0, -2};
        for (int w = 0; w < away.length; w++) due("of(0, " + w + ")", x.of(0, w), away[w]);
        x.sit(0, 0);
        due("honey: what is left", x.of(0, 6), 4);
        due("salt: none", x.of(0, 7), 0);
        x.spoon(0, 0);
        due("eaten", x.of(0, 4), 4);
        due("holds", x.of(0, 5), 56);
        ruledBy(x, "holds eaten-2;");
        due("0 at least", x.of(0, 5), 0);
        ruledBy(x, "holds 9999+9999;");
        due("9999 at most", x.of(0, 5), 9995);
        ruledBy(x, "holds 0-9999;");
        due("holds 0 at least", x.of(0, 5), 0);
        ruledBy(x, "holds eater*1000+hunger*100+stomachs*10+eaten;");
        due("its names", x.of(0, 5), 530);
        for (int w : new int[] {-1, 8, LEAST, MOST}) due("of(0, " + w + ")", x.of(0, w), -2);
        for (int e : new int[] {-1, 1, 9, LEAST, MOST}) due("of(" + e + ", 0)", x.of(e, 0), -2);
    }

    static void written() {
        SpoonScales x = pots(50, 50, 50, 50);
        due("none", x.written(-1, 0), 0);
        due("none such", x.written(0, 0), -2);
        seated(x, 1, 9, 0, 1);
        seated(x, 2, 9, 0, 0);
        x.spoon(1, 1);
        x.spoon(0, 0);
        int[][] rows = {{1, 0, 1, 3}, {0, 1, 0, 2}};
        for (int i = 0; i < 2; i++) for (int w = 0; w < 4; w++) due("written", x.written(i, w), rows[i][w]);
        due("how many", x.written(-1, 0), 2);
        int[][] others = {{2, 0}, {-2, 0}, {0, -1}, {0, 4}, {LEAST, 0}, {MOST, 0}, {0, LEAST}, {0, MOST}, {536870912, 0}};
        for (int[] o : others) due("written of others", x.written(o[0], o[1]), -2);
        x.sit(0, 0);
        due("where it was then", x.written(1, 1), 1);
    }

    static void dent() {
        SpoonScales x = pots(0, 3, 0, 0);
        due("none", x.dent(-1, 0), 0);
        due("none such", x.dent(0, 0), -9999);
        x.judge(1);
        x.pot(1, 1, 999);
        x.judge(1);
        int[][] rows = {{1, 3, 1}, {1, -996, 0}};
        for (int i = 0; i < 2; i++) for (int w = 0; w < 3; w++) due("dent", x.dent(i, w), rows[i][w]);
        due("how many", x.dent(-1, 0), 2);
        int[][] others = {{2, 0}, {-2, 0}, {0, -1}, {0, 3}, {LEAST, 0}, {MOST, 0}, {0, LEAST}, {0, MOST}};
        for (int[] o : others) due("dent of others", x.dent(o[0], o[1]), -9999);
    }

    static void called() {
        SpoonScales x = pots(10, 0, 7, 0);
        seated(x, 8, 9, 0, 0);
        seated(x, 3, 9, 0, 0);
        seated(x, 0, 9, 0, 1);
        due("10 less all, 7 less 1", x.called(7, 0, -1), -6);
        for (int i = 0; i < 3; i++) due("all orders are alike", x.called(7, 0, i), i);
        due("salt: nobody can", x.called(7, 1, -1), 3);
        int[][] others = {{0, 0, -1}, {8, 0, -1}, {-1, 0, -1}, {512, 0, -1}, {7, -1, -1}, {7, 2, -1}, {7, 0, -2}, {7, 0, 3}, {LEAST, 0, 0}, {MOST, 0, 0}, {7, 0, LEAST}, {7, 0, MOST}};
        for (int[] o : others) due("called of others", x.called(o[0], o[1], o[2]), -9999);
        x.sit(1, 2);
        due("one is away", x.called(7, 0, -1), -9999);
        due("without the one", x.called(5, 0, -1), -5);
        due("nothing changes", x.about(10), 10);

        // Who comes first eats 1, who comes second 2, ..: so who sits at which side is what counts.
        SpoonScales y = pots(10, 0, 10, 0);
        seated(y, 0, 9, 0, 1);
        seated(y, 0, 9, 0, 0);
        seated(y, 0, 9, 0, 0);
        ruledBy(y, "eats spoons+1;");
        due("3 at side 1, 1 and 2 at side 0", y.called(7, 0, -1), 0);
        int[] order = {1, 2, 0};
        for (int i = 0; i < 3; i++) due("order", y.called(7, 0, i), order[i]);

        SpoonScales z = pots(99, 0, 99, 0);
        for (int i = 0; i < 9; i++) seated(z, i, 9, 0, 0);
        due("six", z.called(63, 0, -1), 99 - 21 - 99);
        due("the last of six", z.called(0b111111000, 0, 5), 8);
        due("seven", z.called(127, 0, -1), -9999);
        due("nine", z.called(511, 0, -1), -9999);
    }

    static void acquitted() {
        SpoonScales x = pots(10, 10, 10, 12);
        due("side 0 is guilty, nobody eats", x.acquitted(0, -1), -3);
        due("no honey either", x.acquitted(0, -2), -3);
        due("side 1 isn't", x.acquitted(1, -1), 0);
        due("no honey", x.acquitted(1, -2), 0);
        due("no first", x.acquitted(1, 0), -3);
        seated(x, 0, 9, 0, 1);
        due("two spoons of salt", x.acquitted(0, -1), 2);
        due("no honey", x.acquitted(0, -2), 0);
        due("salt", x.acquitted(0, 0), 1);
        due("salt", x.acquitted(0, 1), 1);
        due("no third", x.acquitted(0, 2), -3);
        x.pot(1, 1, 1);
        x.pot(0, 1, 0);
        x.pot(0, 0, 8);
        due("three less: tilt -3", x.acquitted(0, -1), 3);
        due("two of honey", x.acquitted(0, -2), 2);
        int[] three = {0, 0, 1};
        for (int i = 0; i < 3; i++) due("the lowest first", x.acquitted(0, i), three[i]);
        x.pot(0, 0, 7);
        due("four", x.acquitted(0, -1), 4);
        x.pot(0, 0, 6);
        due("four are too few", x.acquitted(0, -1), -3);
        due("none", x.acquitted(0, 0), -3);
        int[][] others = {{-1, -1}, {2, -1}, {0, -3}, {0, 4}, {LEAST, -1}, {MOST, -1}, {1, LEAST}, {1, MOST}};
        for (int[] o : others) due("acquitted of others", x.acquitted(o[0], o[1]), -3);
        x.pot(0, 0, 10);
        due("what was asked before doesn't count", x.acquitted(0, -1), 1);
        seated(x, 5, 9, 0, 1);
        due("the lowest eater of like ones", x.acquitted(0, 0), 1);
        due("nothing changes", x.written(-1, 0), 0);

        // What is asked again is asked of what is now, whatever changed it.
        SpoonScales w = pots(0, 0, 0, 4);
        w.eater(3, 9, 0);
        w.eater(1, 9, 0);
        due("all are away", w.acquitted(0, -1), -3);
        w.image();
        w.sit(1, 1);
        due("behind sit", w.acquitted(0, -1), 2);
        w.undo();
        due("behind undo", w.acquitted(0, -1), -3);
        w.sit(0, 1);
        w.sit(1, 1);
        due("behind sit", w.acquitted(0, -1), 1);
        due("who", w.acquitted(0, 0), 1);
        w.spoon(1, 1);
        due("behind a spoon: alike, but the lower one", w.acquitted(0, 0), 1);
        w.spoon(0, 1);
        due("behind a spoon", w.acquitted(0, -1), 0);
        w.back();
        due("behind back", w.acquitted(0, -1), -3);
        ruledBy(w, "guilty dents<1;");
        due("behind by", w.acquitted(1, -1), -3);
        w.judge(0);
        due("behind judge", w.acquitted(1, -1), 0);
        ruledBy(w, "guilty salt>3;");
        due("behind by", w.acquitted(1, -1), -3);
        w.flies(1);
        due("behind flies", w.acquitted(1, -1), 0);

        // Fewer spoons count before less honey; of two honeys the lesser before the lower number.
        SpoonScales y = pots(0, 0, 6, 2);
        seated(y, 9, 9, 0, 1);
        seated(y, 5, 9, 0, 1);
        ruledBy(y, "guilty salt+honey>2;");
        due("one spoon of honey does it", y.acquitted(1, -1), 1);
        due("honey", y.acquitted(1, -2), 6);
        due("who", y.acquitted(1, 0), 0);
        ruledBy(y, "eats 6-eater; guilty salt+honey>3;");
        due("the second eats five", y.acquitted(1, -2), 5);
        due("who", y.acquitted(1, 0), 2);
        y.by(-1);
        due("by no law", y.acquitted(1, -1), 0);
        ruledBy(y, "guilty 1=1;");
        due("always guilty", y.acquitted(1, -1), -3);
    }

    static void sets() {
        SpoonScales x = pots(10, 0, 10, 0);
        due("nobody: the empty set", x.sets(0, 0, 10, -1), 1);
        due("it is 0", x.sets(0, 0, 10, 0), 0);
        seated(x, 4, 9, 0, 0);
        seated(x, 5, 9, 0, 0);
        seated(x, 9, 9, 0, 0);
        x.eater(1, 1, 1);
        seated(x, 6, 9, 0, 1);
        due("none are left", x.sets(0, 0, 0, -1), 8);
        int[] none = {3, 4, 5, 6, 19, 20, 21, 22};
        for (int i = 0; i < none.length; i++) due("sets", x.sets(0, 0, 0, i), none[i]);
        due("no more", x.sets(0, 0, 0, 8), -1);
        due("4 less: 5 eaten, 6 eaten are too much", x.sets(0, 0, 4, -1), 2);
        due("who ate six", x.sets(0, 0, 4, 0), 2);
        due("the other pot", x.sets(1, 0, 3, 0), 16);
        due("nobody can eat salt", x.sets(0, 1, 0, -1), 1);
        due("none such", x.sets(0, 0, 7, -1), 0);
        due("none such", x.sets(0, 0, 7, 0), -1);
        int[][] others = {{-1, 0, 0, -1}, {2, 0, 0, -1}, {0, -1, 0, -1}, {0, 2, 0, -1}, {0, 0, -1, -1}, {0, 0, 1000, -1}, {0, 0, 0, -2}, {LEAST, 0, 0, 0}, {0, MOST, 0, 0}, {0, 0, 0, LEAST}, {0, 0, 0, MOST}};
        for (int[] o : others) due("sets of others", x.sets(o[0], o[1], o[2], o[3]), -1);
        x.pot(0, 0, 999);
        due("999", x.sets(0, 0, 999, -1), 2);
        ruledBy(x, "eats spoons+1;");
        due("by number: 1 and 2 and 3", x.sets(0, 0, 993, 0), 7);
        due("nothing changes", x.about(10), 999);
    }

    static void tested() {
        SpoonScales x = new SpoonScales();
        int[][] others = {{-21, 0}, {21, 0}, {0, -2}, {0, 2}, {LEAST, 0}, {MOST, 0}, {0, LEAST}, {0, MOST}};
        for (int[] o : others) due("tested of others", x.tested(o[0], o[1]), -1);
        due("none", x.about(7), 0);
        for (int i = 1; i <= 12; i++) due("tested", x.tested(i % 2 == 0 ? 20 : -20, i % 2 == 0 ? 1 : -1), i);
        due("a 13th", x.tested(0, 0), -1);
        due("about", x.about(7), 12);
        due("all fit yet", x.fits(), 1023);
        due("no step", x.about(6), 0);
    }

    static void fits() {
        SpoonScales x = new SpoonScales();
        due("all", x.fits(), 1023);
        x.tested(-3, 1);
        due("4 .. 9", x.fits(), 0b1111110000);
        x.tested(-8, -1);
        due("4 .. 7", x.fits(), 0b0011110000);
        x.tested(-5, 0);
        due("5", x.fits(), 0b0000100000);
        x.tested(0, -1);
        due("none", x.fits(), 0);
        SpoonScales y = new SpoonScales();
        y.tested(0, 0);
        due("no penny", y.fits(), 1);
        SpoonScales z = new SpoonScales();
        z.tested(-9, 0);
        due("nine", z.fits(), 512);
    }

    static void next() {
        SpoonScales x = new SpoonScales();
        due("five at most hang alike", x.next(), -5);
        x.tested(-4, -1);
        due("0 .. 3: two at most", x.next(), -2);
        x.tested(-2, -1);
        due("0, 1: one at most", x.next(), -1);
        x.tested(0, 0);
        due("one: the lowest load", x.next(), -20);
        x.tested(0, 1);
        due("none", x.next(), -99);
        SpoonScales y = new SpoonScales();
        y.tested(-6, 1);
        due("7 .. 9: one each", y.next(), -8);
    }

    static void hired() {
        SpoonScales x = new SpoonScales();
        due("nobody", x.hired(1), -1);
        x.eater(0, 1, 10);
        x.eater(0, 2, 20);
        x.eater(0, 3, 30);
        x.eater(0, 3, 30);
        due("20", x.hired(20), 1);
        due("21", x.hired(21), 2);
        due("60: one rather than two", x.hired(60), 4);
        due("80: 1 and 3, or 1 and 4", x.hired(80), 5);
        due("all", x.hired(180), 15);
        due("too much", x.hired(181), -1);
        for (int n : new int[] {0, -1, 10000, LEAST, MOST}) due("hired " + n, x.hired(n), -1);
        x.pot(0, 0, 99);
        x.sit(0, 0);
        x.spoon(0, 0);
        due("still holds 19", x.hired(20), 2);
        ruledBy(x, "holds 5000-eater;");
        due("by law", x.hired(9999), 7);
        ruledBy(x, "holds 9999;");
        due("9999: the second, as the first has eaten", x.hired(9999), 2);
        SpoonScales y = new SpoonScales();
        y.eater(0, 1, 0);
        y.eater(0, 1, 0);
        due("for nothing, but fewer", y.hired(1), 1);
    }

    static void contrary() {
        SpoonScales x = pots(5, 0, 0, 0);
        told(x, "guilty dents=2 or dents=3;");
        due("none", x.contrary(), -1);
        x.judge(0);
        x.judge(1);
        due("two sides", x.contrary(), -1);
        x.judge(0);
        due("alike", x.contrary(), -1);
        x.by(0);
        x.pot(0, 0, 6);
        x.judge(0);
        due("another tilt", x.contrary(), -1);
        x.pot(0, 0, 5);
        x.judge(1);
        due("1 guilty, 4 not", x.contrary(), 34);
        x.by(-1);
        x.judge(0);
        x.pot(0, 0, 6);
        x.judge(0);
        due("3 guilty and 6 not come later", x.contrary(), 34);
        x.undo();
        x.undo();
        x.undo();
        due("taken back", x.contrary(), -1);
        SpoonScales y = new SpoonScales();
        ruledBy(y, "guilty dents/2*2=dents;");
        y.judge(1);
        y.judge(1);
        due("the first two", y.contrary(), 1);
    }

    static void odds() {
        SpoonScales x = pots(9, 9, 9, 9);
        due("now", x.odds(0, 0, false), 1);
        due("now", x.odds(0, 0, true), 1);
        due("not now", x.odds(1, 0, false), 0);
        due("not now", x.odds(1, 0, true), 1);
        due("one", x.odds(1, 1, false), 1);
        due("one", x.odds(1, 1, true), 2);
        due("six: 20 of 64", x.odds(0, 6, false), 5);
        due("six: 20 of 64", x.odds(0, 6, true), 16);
        due("six: 1 of 64", x.odds(-6, 6, false), 1);
        due("six: 1 of 64", x.odds(-6, 6, true), 64);
        SpoonScales y = pots(1, 0, 0, 0);
        due("the one is gone", y.odds(0, 6, false), 4096 - 729);
        due("of 4096", y.odds(0, 6, true), 4096);
        due("it stays", y.odds(1, 2, false), 9);
        due("of 16", y.odds(1, 2, true), 16);
        due("9999", y.odds(9999, 1, false), 0);
        due("-9999", y.odds(-9999, 1, true), 1);
        int[][] others = {{10000, 1}, {-10000, 1}, {0, -1}, {0, 7}, {LEAST, 0}, {MOST, 0}, {0, LEAST}, {0, MOST}};
        for (int[] o : others) {
            due("odds of others", y.odds(o[0], o[1], false), -1);
            due("odds of others", y.odds(o[0], o[1], true), -1);
        }
        due("X is as it was", y.about(3), 3);
    }

    static void tell() {
        SpoonScales x = new SpoonScales();
        due("nobody", x.tell(0, 1), -2);
        due("none any more", x.tell(-1, 5), 0);
        x.eater(1, 1, 1);
        int[][] others = {{1, 1}, {-2, 1}, {0, 0}, {0, -1}, {0, 1000}, {LEAST, 1}, {MOST, 1}, {0, LEAST}, {0, MOST}};
        for (int[] o : others) due("tell of others", x.tell(o[0], o[1]), -2);
        for (int i = 1; i <= 20; i++) due("tell", x.tell(0, i == 1 ? 999 : 1), i);
        due("a 21st", x.tell(0, 1), -2);
        due("about", x.about(8), 20);
        due("none any more", x.tell(-1, -7), 0);
        due("about", x.about(8), 0);
        due("tell", x.tell(0, 1), 1);
    }

    static void liars() {
        SpoonScales x = pots(50, 50, 0, 0);
        for (int i = 0; i < 9; i++) seated(x, i, 9, 0, 0);
        due("none", x.liars(), 0);
        x.spoon(2, 0);
        x.spoon(2, 1);
        x.spoon(8, 1);
        due("not told", x.liars(), 260);
        x.tell(2, 3);
        due("too little", x.liars(), 260);
        x.tell(2, 3);
        due("just", x.liars(), 256);
        x.tell(8, 10);
        x.tell(0, 1);
        due("too much", x.liars(), 257);
        x.tell(-1, 0);
        due("nothing is told", x.liars(), 260);
        x.undo();
        due("taken back", x.liars(), 4);
    }

    static void inWhoseName() {
        SpoonScales x = pots(90, 90, 0, 0);
        for (int i = 0; i < 4; i++) seated(x, 4, 9, 0, 0);
        x.spoon(1, 0);
        x.spoon(1, 0);
        x.tell(1, 4);
        due("6 more, in nobody's name", x.inWhoseName(1), -1);
        x.tell(3, 6);
        due("in the fourth's", x.inWhoseName(1), 3);
        due("who ate less is none", x.inWhoseName(3), -1);
        due("who ate as told is none", x.inWhoseName(2), -1);
        x.tell(2, 2);
        x.tell(2, 4);
        due("the lowest", x.inWhoseName(1), 2);
        x.spoon(2, 1);
        due("but for what was eaten", x.inWhoseName(1), 3);
        for (int e : new int[] {-1, 4, 9, LEAST, MOST}) due("others", x.inWhoseName(e), -1);
    }

    static void image() {
        SpoonScales x = pots(9, 9, 9, 9);
        due("none", x.image(), 0);
        seated(x, 1, 9, 5, 0);
        x.spoon(0, 0);
        due("one", x.image(), 1);
        x.spoon(0, 0);
        due("two", x.image(), 2);
        x.undo();
        x.undo();
        x.undo();
        due("none", x.written(-1, 0), 0);
        due("the image is behind both", x.back(), 2);
        due("written", x.written(1, 3), 2);
        manyRows();
    }

    /** All rows and steps are kept, though others come in their places. */
    private static void manyRows() {
        SpoonScales x = pots(999, 999, 999, 999);
        seated(x, 0, 9, 0, 0);
        seated(x, 1, 9, 0, 1);
        for (int i = 0; i < 45; i++) x.spoon(i % 2, 0);
        due("image", x.image(), 45);
        for (int i = 0; i < 30; i++) x.undo();
        for (int i = 0; i < 45; i++) x.spoon(1 - i % 2, 1);
        due("others", x.written(44, 2), 1);
        due("back", x.back(), 45);
        for (int i = 0; i < 45; i++) {
            due("eater", x.written(i, 0), i % 2);
            due("kind", x.written(i, 2), 0);
            due("grains", x.written(i, 3), 1 + i % 2);
        }
        for (int i = 29; i >= 0; i--) {
            due("undo", x.undo(), i);
            due("spoons", x.written(-1, 0), i + 15);
            due("honey", x.about(10) + x.about(12), 2 * 999 - (i + 15) - (i + 15) / 2);
        }
        SpoonScales y = pots(0, 0, 0, 0);
        for (int i = 0; i < 30; i++) y.judge(i % 2);
        y.image();
        for (int i = 0; i < 30; i++) y.undo();
        y.pot(0, 0, 9);
        for (int i = 0; i < 30; i++) y.judge(1 - i % 2);
        due("others", y.dent(29, 1), 9);
        y.back();
        for (int i = 0; i < 30; i++) {
            due("side", y.dent(i, 0), i % 2);
            due("tilt", y.dent(i, 1), 0);
            due("guilty", y.dent(i, 2), 0);
        }
    }

    static void back() {
        SpoonScales x = pots(9, 8, 7, 6);
        seated(x, 1, 9, 5, 0);
        x.spoon(0, 0);
        x.judge(0);
        ruledBy(x, "eats 3;");
        x.tested(-4, 1);
        x.tell(0, 2);
        x.seed(77);
        due("image", x.image(), 1);
        int[] about = new int[14];
        for (int i = 0; i < about.length; i++) about[i] = x.about(i);
        for (int again = 0; again < 2; again++) {
            x.undo();
            x.undo();
            x.undo();
            seated(x, 3, 3, 3, 1);
            x.spoon(1, 1);
            x.judge(1);
            x.pot(0, 0, 500);
            told(x, "eats 4; judge 1;");
            due("by(1)", x.by(1), true);
            x.tested(0, 0);
            x.tell(1, 1);
            told(x, "oops");
            tape(x, "judge 1; judge 1; judge 1;");
            due("back", x.back(), 1);
            about[9] = 26;
            for (int i = 0; i < about.length; i++) due("about " + i, x.about(i), about[i]);
            due("the fault stays", x.fault(0), 1);
            due("fits", x.fits(), 992);
            due("liars", x.liars(), 0);
            due("written", x.written(0, 0), 0);
            due("dent", x.dent(0, 1), 9 + 8 - 7 - 6 - 2);
            due("texts behind it are gone", x.played(1), -2);
            due("ruled by the first", x.of(0, 6), 3);
            x.end(8);
            due("the tape can be told", x.text(), 1);
            due("a new text", x.played(1), -1);
            due("steps: it, judged, a spoon, seated", x.undo(), 3);
            due("taken back", x.undo(), 2);
            due("taken back", x.undo(), 1);
            due("honey", x.about(10), 9);
        }
    }

    static void about() {
        SpoonScales x = pots(1, 20, 300, 999);
        due("tilt", x.about(1), 10000 + 21 - 1299);
        int[] grains = {1, 20, 300, 999};
        for (int i = 0; i < 4; i++) due("grains", x.about(10 + i), grains[i]);
        x.eater(1, 1, 1);
        due("eaters", x.about(0), 1);
        x.judge(0);
        due("dents", x.about(2), 1);
        x.seed(2);
        due("X", x.about(3), 13);
        told(x, "eats 1;");
        due("texts", x.about(4), 1);
        x.by(0);
        due("the text", x.about(5), 0);
        x.sit(0, 0);
        due("steps", x.about(6), 2);
        x.tested(0, 0);
        due("tested", x.about(7), 1);
        x.tell(0, 1);
        due("told", x.about(8), 1);
        x.feed(0, 0, 0, 0, 0);
        due("tape", x.about(9), 20);
        for (int w : new int[] {-1, -2, 14, LEAST, MOST}) due("about " + w, x.about(w), -2);
    }
}
