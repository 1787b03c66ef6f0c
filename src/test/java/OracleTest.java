import java.util.ArrayList;
import java.util.Arrays;
import java.util.Collections;
import java.util.HashMap;
import java.util.List;
import java.util.Map;
import java.util.Random;
import java.util.function.ToIntFunction;

/** Random runs of calls, each answer beside that of a second, slow court which is written from the document alone. */
public final class OracleTest {
    private static int wrong = 0;

    public static void main(String[] args) {
        long calls = 0;
        for (int seed = 1; seed <= 1500 && wrong == 0; seed++) {
            calls += new Run(seed).go();
            calls += new Run(-seed).tryOrders();
        }
        System.out.println(wrong == 0 ? calls + " calls are as the oracle's" : wrong + " calls are not as the oracle's");
        if (wrong != 0) System.exit(1);
    }

    /** A run of at most 512 calls on one object and one oracle. */
    private static final class Run {
        final int seed;
        final Random random;
        final SpoonScales scales = new SpoonScales();
        final Oracle oracle = new Oracle();
        final List<String> log = new ArrayList<>();
        final int mood;
        int count = 0;

        Run(int seed) { this.seed = seed; this.random = new Random(seed); this.mood = Math.abs(seed) % 5; }

        int go() {
            int most = 60 + random.nextInt(425);
            if (random.nextInt(4) > 0) setUp();
            while (count < most && wrong == 0) step();
            return count;
        }

        /** Where it counts who eats first: laws by which a spoon hangs on those ahead of it. */
        int tryOrders() {
            String[] eats = {"left/10+1", "left-left/3*3+1", "spoons+1", "7-spoons*2", "eaten+1", "9-eaten", "eater+spoons*kind+1", "left*(eater+1)/20",
                "hunger+1-eaten/3", "(spoons+eater)*2-kind", "side+left/(spoons+2)", "4"};
            String[] guilty = {"tilt#0", "tilt<0", "tilt*tilt>2", "honey#salt", "honey-salt<3", "honey+salt#7", "tilt#-honey", "salt>2 or tilt<1"};
            int eaters = 2 + random.nextInt(3);
            for (int i = 0; i < eaters; i++) callEater();
            for (int i = 0; i < eaters; i++) callSit(i, random.nextInt(2));
            for (int p = 0; p < 4; p++) callPot(p / 2, p % 2, random.nextInt(24));
            for (int i = 0; i < 4; i++) {
                String holds = random.nextInt(3) == 0 ? "holds " + random.nextInt(15) + "+eater;" : "";
                String law = "eats " + eats[random.nextInt(eats.length)] + ";" + holds + "guilty " + guilty[random.nextInt(guilty.length)] + ";";
                bring(law, law.length());
                due("text() of " + law, scales.text(), oracle.text());
                due("by(" + i + ")", scales.by(i), oracle.by(i));
                askWhereOrderCounts();
                for (int more = 0; more < 4; more++) {
                    change();
                    askWhereOrderCounts();
                }
            }
            return count;
        }

        void askWhereOrderCounts() {
            callAcquitted();
            callCalled();
            callSets();
        }

        /** One call that may change what an acquittal takes. */
        void change() {
            int r = random.nextInt(9);
            int e = who(), k = random.nextInt(2), n = 1 + random.nextInt(3);
            if (r == 0) callPot(random.nextInt(2), k, random.nextInt(24));
            else if (r == 1) callSit(e, random.nextInt(3));
            else if (r == 2 || r == 3) due("spoon(" + e + ", " + k + ")", scales.spoon(e, k), oracle.spoon(e, k));
            else if (r == 4) due("judge(" + k + ")", scales.judge(k), oracle.judge(k));
            else if (r == 5) due("flies(" + n + ")", scales.flies(n), oracle.flies(n));
            else if (r == 6) due("undo()", scales.undo(), oracle.undo());
            else if (r == 7) due("image()", scales.image(), oracle.image());
            else due("by(" + (n - 2) + ")", scales.by(n - 2), oracle.by(n - 2));
        }

        void due(String call, long got, long want) {
            count++;
            if (count > 512) throw new IllegalStateException("more than 512 calls");
            log.add(call + " -> " + want);
            if (got == want) return;
            wrong++;
            System.out.println("seed " + seed + ", behind:");
            for (String line : log) System.out.println("  " + line);
            System.out.println(call + " answered " + got + ", due is " + want);
        }

        void due(String call, boolean got, boolean want) { due(call, got ? 1 : 0, want ? 1 : 0); }

        int any(int low, int high) {
            int r = random.nextInt(60);
            if (r == 0) return low - 1;
            if (r == 1) return high + 1;
            if (r == 2) return random.nextBoolean() ? Integer.MIN_VALUE : Integer.MAX_VALUE;
            if (r == 3) return random.nextInt();
            return low + random.nextInt(high - low + 1);
        }

        void setUp() {
            int eaters = 1 + random.nextInt(mood == 1 ? 9 : 6);
            for (int i = 0; i < eaters; i++) callEater();
            for (int s = 0; s < 2; s++) for (int k = 0; k < 2; k++) callPot(s, k, random.nextInt(rich() + 1));
            for (int i = 0; i < eaters; i++) callSit(i, random.nextInt(5) == 0 ? 2 : random.nextInt(2));
        }

        int rich() { return mood == 2 ? 8 : mood >= 3 ? 999 : 60; }

        /** Mostly an eater who is there, and mostly one who sits. */
        int who() {
            int there = oracle.s.eaters.size();
            if (there == 0 || random.nextInt(8) == 0) return any(0, 8);
            int e = random.nextInt(there);
            return oracle.s.eaters.get(e)[3] == 2 ? random.nextInt(there) : e;
        }

        int someText() {
            int there = oracle.s.texts.size();
            return there == 0 || random.nextInt(6) == 0 ? any(-1, 3) : random.nextInt(there);
        }

        void callEater() {
            int h = mood == 4 ? any(0, 1) : any(0, 9), s = any(1, 9), p = mood == 2 ? any(0, 3) : any(0, 99);
            due("eater(" + h + ", " + s + ", " + p + ")", scales.eater(h, s, p), oracle.eater(h, s, p));
        }

        void callPot(int s, int k, int g) {
            due("pot(" + s + ", " + k + ", " + g + ")", scales.pot(s, k, g), oracle.pot(s, k, g));
        }

        void callSit(int e, int s) {
            due("sit(" + e + ", " + s + ")", scales.sit(e, s), oracle.sit(e, s));
        }

        void step() {
            int r = random.nextInt(200);
            if (r < 3) callEater();
            else if (r < 10) callPot(any(0, 1), any(0, 1), any(0, rich()));
            else if (r < 13) { int s = any(0, 9999); due("seed(" + s + ")", scales.seed(s), oracle.seed(s)); }
            else if (r < 22) callSit(who(), any(0, 2));
            else if (r < (mood == 4 ? 80 : 60)) { int e = who(), k = any(0, 1); due("spoon(" + e + ", " + k + ")", scales.spoon(e, k), oracle.spoon(e, k)); }
            else if (r < 83) { int s = any(0, 1); due("judge(" + s + ")", scales.judge(s), oracle.judge(s)); }
            else if (r < 86) { int n = any(1, mood == 2 ? 5 : 40); due("flies(" + n + ")", scales.flies(n), oracle.flies(n)); }
            else if (r < 96) callText();
            else if (r < 104) { int t = someText(); due("by(" + t + ")", scales.by(t), oracle.by(t)); }
            else if (r < 110) { int t = someText(); due("played(" + t + ")", scales.played(t), oracle.played(t)); }
            else if (r < 115) { if (mood != 4 || random.nextInt(20) == 0) due("undo()", scales.undo(), oracle.undo()); }
            else if (r < 131) { int e = who(), w = any(0, 7); due("of(" + e + ", " + w + ")", scales.of(e, w), oracle.of(e, w)); }
            else if (r < 136) { int i = any(-1, oracle.s.spoons.size()), w = any(0, 3); due("written(" + i + ", " + w + ")", scales.written(i, w), oracle.written(i, w)); }
            else if (r < 141) { int i = any(-1, oracle.s.dents.size()), w = any(0, 2); due("dent(" + i + ", " + w + ")", scales.dent(i, w), oracle.dent(i, w)); }
            else if (r < 145) callCalled();
            else if (r < 147) callAcquitted();
            else if (r < 150) callSets();
            else if (r < 154) callTested();
            else if (r < 157) { due("fits()", scales.fits(), oracle.fits()); due("next()", scales.next(), oracle.next()); }
            else if (r < 161) { int n = random.nextBoolean() ? any(1, 9999) : any(1, 300); due("hired(" + n + ")", scales.hired(n), oracle.hired(n)); }
            else if (r < 165) due("contrary()", scales.contrary(), oracle.contrary());
            else if (r < 169) callOdds();
            else if (r < 176) callTell();
            else if (r < 182) { int e = who(); due("inWhoseName(" + e + ")", scales.inWhoseName(e), oracle.inWhoseName(e)); due("liars()", scales.liars(), oracle.liars()); }
            else if (r < 184) due("image()", scales.image(), oracle.image());
            else if (r < 185) { if (random.nextInt(mood == 4 ? 60 : 3) == 0) due("back()", scales.back(), oracle.back()); }
            else { int w = any(0, 13); due("about(" + w + ")", scales.about(w), oracle.about(w)); }
        }

        /** Mostly what hangs as some penny would. */
        void callTested() {
            int l = any(-12, 3), h = any(-1, 1);
            if (random.nextInt(6) > 0) h = Integer.signum(l + seed % 10);
            due("tested(" + l + ", " + h + ")", scales.tested(l, h), oracle.tested(l, h));
        }

        void callCalled() {
            int set = random.nextInt(512), k = any(0, 1);
            if (random.nextInt(5) > 0) set = oracle.s.seated();
            if (random.nextInt(20) == 0) set = random.nextInt();
            for (int i = -1; i < 7; i++) due("called(" + set + ", " + k + ", " + i + ")", scales.called(set, k, i), oracle.called(set, k, i));
        }

        void callAcquitted() {
            int s = any(0, 1);
            if (random.nextInt(4) > 0 && (oracle.s.guilty(0) || oracle.s.guilty(1))) s = oracle.s.guilty(0) ? 0 : 1;
            for (int i = -3; i < 5; i++) due("acquitted(" + s + ", " + i + ")", scales.acquitted(s, i), oracle.acquitted(s, i));
        }

        void callSets() {
            int s = any(0, 1), k = any(0, 1);
            int pot = oracle.s.pots[2 * (s & 1) + (k & 1)];
            int g = Math.max(0, pot - random.nextInt(12));
            if (random.nextInt(8) == 0) g = any(0, 999);
            for (int i = -2; i < 4; i++) due("sets(" + s + ", " + k + ", " + g + ", " + i + ")", scales.sets(s, k, g, i), oracle.sets(s, k, g, i));
        }

        void callOdds() {
            int t = oracle.s.tilt() + random.nextInt(9) - 4, n = any(0, 6);
            if (random.nextInt(9) == 0) t = any(-9999, 9999);
            due("odds(" + t + ", " + n + ", false)", scales.odds(t, n, false), oracle.odds(t, n, false));
            due("odds(" + t + ", " + n + ", true)", scales.odds(t, n, true), oracle.odds(t, n, true));
        }

        /** Often what was eaten, and as often a little of it for another. */
        void callTell() {
            int e = who(), g = any(1, 12);
            if (random.nextInt(30) == 0) e = -1;
            int r = random.nextInt(3);
            if (r == 0 && oracle.isEater(e)) g = oracle.over(e);
            if (r == 1) for (int o = 0; o < oracle.s.eaters.size(); o++) if (o != e && oracle.over(o) > 0) g = oracle.over(o);
            due("tell(" + e + ", " + g + ")", scales.tell(e, g), oracle.tell(e, g));
        }

        void callText() {
            String text = new Words(random).text();
            bring(text, random.nextInt(20) == 0 ? any(0, 300) : text.length());
            if (random.nextInt(12) == 0) return;
            due("text() of [" + text + "]", scales.text(), oracle.text());
            for (int w = -1; w < 3; w++) due("fault(" + w + ")", scales.fault(w), oracle.fault(w));
        }

        void bring(String text, int n) {
            byte[] bytes = text.getBytes(java.nio.charset.StandardCharsets.ISO_8859_1);
            for (int at = 0; at < bytes.length; at += 20) {
                int[] f = new int[5];
                for (int i = 0; i < 20; i++) {
                    int b = at + i < bytes.length ? bytes[at + i] & 255 : 32;
                    f[i / 4] |= b << (24 - 8 * (i % 4));
                }
                due("feed(" + Arrays.toString(f) + ")", scales.feed(f[0], f[1], f[2], f[3], f[4]), oracle.feed(f));
            }
            due("end(" + n + ")", scales.end(n), oracle.end(n));
        }
    }

    /** Texts that are often right, and often wrong by a little. */
    private static final class Words {
        static final String[] NAMES = {"eater", "hunger", "stomachs", "eaten", "kind", "left", "spoons", "side", "tilt", "honey", "salt", "dents"};
        static final String[] ODD = {"eats", "or", "and", "not", "(", ")", "-", "+", "*", "/", "<", "<=", ">", ">=", "=", "#", ";", "at", "of", "sit", "spoon", "spoonx", "Eats", "?", "10000", "9999", "00000000007", "99999999999999", "\u0000", "\u00e9", "\t", "guilty", "flies"};
        final Random r;
        final List<String> out = new ArrayList<>();
        String clause = "";

        Words(Random r) { this.r = r; }

        String text() {
            int clauses = r.nextInt(12) == 0 ? 20 + r.nextInt(8) : 1 + r.nextInt(6);
            for (int i = 0; i < clauses; i++) clause(clauses > 10);
            int slips = r.nextInt(5) < 3 ? 0 : 1 + r.nextInt(2);
            for (int i = 0; i < slips && !out.isEmpty(); i++) {
                int at = r.nextInt(out.size());
                int how = r.nextInt(3);
                String odd = r.nextBoolean() ? ODD[r.nextInt(ODD.length)] : NAMES[r.nextInt(NAMES.length)];
                if (how == 0) out.remove(at);
                else if (how == 1) out.add(at, odd);
                else out.set(at, odd);
            }
            StringBuilder b = new StringBuilder();
            for (String token : out) {
                boolean glued = b.length() > 0 && wordy(b.charAt(b.length() - 1)) && wordy(token.charAt(0));
                if (glued || r.nextInt(6) == 0) b.append(r.nextInt(4) == 0 ? '\n' : ' ');
                b.append(token);
            }
            if (r.nextInt(8) == 0) b.append("  ");
            return b.length() > 300 ? b.substring(0, 300) : b.toString();
        }

        static boolean wordy(char c) { return Character.isLetterOrDigit(c); }

        void clause(boolean small) {
            int k = small ? 3 + r.nextInt(4) : r.nextInt(7);
            if (k == 0 || k == 1) {
                clause = k == 0 ? "eats" : "holds";
                out.add(clause);
                sum(r.nextInt(20) == 0 ? 11 : 3);
            } else if (k == 2) {
                clause = "guilty";
                out.add(clause);
                ask();
                while (r.nextInt(3) == 0) { out.add(r.nextBoolean() ? "or" : "and"); ask(); }
            } else if (k == 3) { out.add("sit"); number(0, 8); out.add("at"); number(0, 2); }
            else if (k == 4) { out.add("spoon"); number(0, 8); out.add("of"); number(0, 1); }
            else if (k == 5) { out.add("judge"); number(0, 1); }
            else { out.add("flies"); number(1, 40); }
            out.add(";");
        }

        void number(int low, int high) {
            out.add("" + (r.nextInt(40) == 0 ? high + 1 : low + r.nextInt(Math.min(high - low + 1, r.nextInt(3) == 0 ? 99 : 4))));
        }

        void ask() {
            int nots = r.nextInt(4) == 0 ? r.nextInt(r.nextInt(6) == 0 ? 10 : 3) : 0;
            for (int i = 0; i < nots; i++) out.add("not");
            sum(2);
            out.add(new String[] {"<", "<=", ">", ">=", "=", "#"}[r.nextInt(6)]);
            sum(2);
        }

        void sum(int deep) {
            product(deep);
            while (r.nextInt(3) == 0) { out.add(r.nextBoolean() ? "+" : "-"); product(deep); }
        }

        void product(int deep) {
            one(deep);
            while (r.nextInt(4) == 0) { out.add(r.nextBoolean() ? "*" : "/"); one(deep); }
        }

        void one(int deep) {
            int k = r.nextInt(deep > 4 ? 3 : 10);
            if (deep > 0 && k == 0) { out.add("("); sum(deep - 1); out.add(")"); }
            else if (deep > 0 && k == 1) { out.add("-"); one(deep - 1); }
            else if (k < 6) out.add("" + (r.nextInt(8) == 0 ? r.nextInt(10000) : r.nextInt(8)));
            else out.add(name());
        }

        String name() {
            if (r.nextInt(40) == 0) return NAMES[r.nextInt(NAMES.length)];
            if (clause.equals("eats")) return NAMES[r.nextInt(8)];
            if (clause.equals("holds")) return NAMES[r.nextInt(4)];
            return NAMES[7 + r.nextInt(5)];
        }
    }

    private static final class Fault extends RuntimeException {
        final int kind, place;
        Fault(int kind, int place) { this.kind = kind; this.place = place; }
    }

    /** A text as a tree of functions, read by descent. */
    private static final class Reading {
        final String tape;
        int at = 0, place = 0;
        String token = "";
        String verb = "";
        final Map<String, ToIntFunction<Map<String, Integer>>> laws = new HashMap<>();
        final List<int[]> clauses = new ArrayList<>();

        Reading(String tape) {
            this.tape = tape;
            move();
            while (!token.isEmpty()) clause();
        }

        void move() {
            while (at < tape.length() && " \n".indexOf(tape.charAt(at)) >= 0) at++;
            place = at;
            if (at == tape.length()) { token = ""; return; }
            String rest = tape.substring(at);
            java.util.regex.Matcher m = java.util.regex.Pattern.compile("[a-zA-Z]+|[0-9]+|<=|>=|[<>=#+*/();-]").matcher(rest);
            token = m.lookingAt() ? m.group() : rest.substring(0, 1);
            at += token.length();
        }

        boolean on(String s) { return token.equals(s); }
        boolean onNumber() { return !token.isEmpty() && Character.isDigit(token.charAt(0)) && token.charAt(0) < 128; }
        Fault fail(int kind) { return new Fault(kind, place); }
        void need(String s) { if (!on(s)) throw fail(1); move(); }

        int number(int low, int high) {
            if (!onNumber()) throw fail(1);
            java.math.BigInteger n = new java.math.BigInteger(token);
            if (n.compareTo(java.math.BigInteger.valueOf(high)) > 0 || n.intValue() < low) throw fail(2);
            move();
            return n.intValue();
        }

        void clause() {
            List<String> verbs = List.of("eats", "holds", "guilty", "sit", "spoon", "judge", "flies");
            int v = verbs.indexOf(token);
            if (v < 0) throw fail(1);
            if (laws.containsKey(token)) throw fail(4);
            if (clauses.size() == 24) throw fail(6);
            verb = token;
            move();
            int a = 0, b = 0;
            if (v < 3) {
                String mine = verb;
                laws.put(mine, v == 2 ? either() : sum(0));
            } else if (v == 3) { a = number(0, 8); need("at"); b = number(0, 2); }
            else if (v == 4) { a = number(0, 8); need("of"); b = number(0, 1); }
            else if (v == 5) a = number(0, 1);
            else a = number(1, 40);
            need(";");
            clauses.add(new int[] {v, a, b});
        }

        ToIntFunction<Map<String, Integer>> either() {
            ToIntFunction<Map<String, Integer>> left = both();
            while (on("or")) { move(); var l = left; var r = both(); left = m -> l.applyAsInt(m) + r.applyAsInt(m) > 0 ? 1 : 0; }
            return left;
        }

        ToIntFunction<Map<String, Integer>> both() {
            ToIntFunction<Map<String, Integer>> left = ask(0);
            while (on("and")) { move(); var l = left; var r = ask(0); left = m -> l.applyAsInt(m) * r.applyAsInt(m); }
            return left;
        }

        ToIntFunction<Map<String, Integer>> ask(int open) {
            if (on("not")) {
                if (open == 8) throw fail(3);
                move();
                var inner = ask(open + 1);
                return m -> 1 - inner.applyAsInt(m);
            }
            var a = sum(open);
            String sign = token;
            if (!List.of("<", "<=", ">", ">=", "=", "#").contains(sign)) throw fail(1);
            move();
            var b = sum(open);
            return m -> {
                int c = Integer.compare(a.applyAsInt(m), b.applyAsInt(m));
                switch (sign) {
                    case "<": return c < 0 ? 1 : 0;
                    case "<=": return c <= 0 ? 1 : 0;
                    case ">": return c > 0 ? 1 : 0;
                    case ">=": return c >= 0 ? 1 : 0;
                    case "=": return c == 0 ? 1 : 0;
                    default: return c != 0 ? 1 : 0;
                }
            };
        }

        static int cut(long v) { return (int) Math.max(-1000000L, Math.min(1000000L, v)); }

        ToIntFunction<Map<String, Integer>> sum(int open) {
            ToIntFunction<Map<String, Integer>> left = product(open);
            while (on("+") || on("-")) {
                boolean plus = on("+");
                move();
                var l = left;
                var r = product(open);
                left = m -> cut(plus ? (long) l.applyAsInt(m) + r.applyAsInt(m) : (long) l.applyAsInt(m) - r.applyAsInt(m));
            }
            return left;
        }

        ToIntFunction<Map<String, Integer>> product(int open) {
            ToIntFunction<Map<String, Integer>> left = one(open);
            while (on("*") || on("/")) {
                boolean times = on("*");
                move();
                var l = left;
                var r = one(open);
                left = m -> {
                    long a = l.applyAsInt(m), b = r.applyAsInt(m);
                    return cut(times ? a * b : b == 0 ? 0 : a / b);
                };
            }
            return left;
        }

        ToIntFunction<Map<String, Integer>> one(int open) {
            if (onNumber()) { int n = number(0, 9999); return m -> n; }
            if (on("(")) {
                if (open == 8) throw fail(3);
                move();
                var inner = sum(open + 1);
                need(")");
                return inner;
            }
            if (on("-")) {
                if (open == 8) throw fail(3);
                move();
                var inner = one(open + 1);
                return m -> -inner.applyAsInt(m);
            }
            List<String> names = List.of(Words.NAMES);
            int n = names.indexOf(token);
            if (n < 0) throw fail(1);
            boolean fine = verb.equals("eats") ? n < 8 : verb.equals("holds") ? n < 4 : n >= 7;
            if (!fine) throw fail(5);
            String name = token;
            move();
            return m -> m.get(name);
        }
    }

    /** All that an image keeps. Eaters: hunger, stomachs, price, where, eaten. */
    private static final class State {
        int[] pots = new int[4];
        List<int[]> eaters = new ArrayList<>();
        List<int[]> spoons = new ArrayList<>();
        List<int[]> dents = new ArrayList<>();
        int x = 3;
        List<State> steps = new ArrayList<>();
        List<Reading> texts = new ArrayList<>();
        int ruling = -1;
        List<int[]> tests = new ArrayList<>();
        List<int[]> told = new ArrayList<>();

        State copy() {
            State c = new State();
            c.pots = pots.clone();
            for (int[] e : eaters) c.eaters.add(e.clone());
            c.spoons.addAll(spoons);
            c.dents.addAll(dents);
            c.x = x;
            c.steps.addAll(steps);
            c.texts.addAll(texts);
            c.ruling = ruling;
            c.tests.addAll(tests);
            c.told.addAll(told);
            return c;
        }

        int tilt() { return pots[0] + pots[1] - pots[2] - pots[3]; }

        int seated() {
            int set = 0, n = 0;
            for (int e = 0; e < eaters.size() && n < 6; e++) if (eaters.get(e)[3] != 2) { set |= 1 << e; n++; }
            return set;
        }

        ToIntFunction<Map<String, Integer>> law(String verb) { return ruling < 0 ? null : texts.get(ruling).laws.get(verb); }

        Map<String, Integer> names(int e) {
            Map<String, Integer> m = new HashMap<>();
            int[] it = eaters.get(e);
            m.put("eater", e);
            m.put("hunger", it[0]);
            m.put("stomachs", it[1]);
            m.put("eaten", it[4]);
            return m;
        }

        int room(int e) {
            int h = law("holds") == null ? 20 * eaters.get(e)[1] : Math.min(9999, Math.max(0, law("holds").applyAsInt(names(e))));
            return Math.max(0, h - eaters.get(e)[4]);
        }

        int spoonful(int e, int k) {
            int[] it = eaters.get(e);
            if (it[3] == 2) return 0;
            int left = pots[2 * it[3] + k];
            int eats = it[0] + 1;
            if (law("eats") != null) {
                Map<String, Integer> m = names(e);
                m.put("kind", k);
                m.put("left", left);
                m.put("spoons", spoons.size());
                m.put("side", it[3]);
                eats = Math.min(99, Math.max(0, law("eats").applyAsInt(m)));
            }
            return Math.min(eats, Math.min(left, room(e)));
        }

        void eat(int e, int k, int g) {
            int[] it = eaters.get(e);
            pots[2 * it[3] + k] -= g;
            it[4] += g;
            spoons.add(new int[] {e, it[3], k, g});
        }

        boolean guilty(int side) {
            if (law("guilty") == null) return side == 0 ? tilt() < 0 : tilt() > 0;
            Map<String, Integer> m = new HashMap<>();
            m.put("side", side);
            m.put("tilt", tilt());
            m.put("honey", pots[2 * side]);
            m.put("salt", pots[2 * side + 1]);
            m.put("dents", dents.size());
            return law("guilty").applyAsInt(m) == 1;
        }
    }

    private static final class Oracle {
        State s = new State();
        State image = new State();
        String tape = "";
        int fault = -1, place = -1;

        boolean in(int v, int low, int high) { return v >= low && v <= high; }
        boolean isEater(int e) { return in(e, 0, s.eaters.size() - 1); }

        boolean pot(int side, int kind, int g) {
            if (!in(side, 0, 1) || !in(kind, 0, 1) || !in(g, 0, 999)) return false;
            s.pots[2 * side + kind] = g;
            return true;
        }

        int eater(int h, int st, int p) {
            if (!in(h, 0, 9) || !in(st, 1, 9) || !in(p, 0, 99) || s.eaters.size() == 9) return -1;
            s.eaters.add(new int[] {h, st, p, 2, 0});
            return s.eaters.size() - 1;
        }

        boolean seed(int v) { if (!in(v, 0, 9999)) return false; s.x = v * 5 + 3; return true; }

        void keep() {
            s.steps.add(s.copy());
            if (s.steps.size() > 30) s.steps.remove(0);
        }

        boolean sit(int e, int side) {
            if (!isEater(e) || !in(side, 0, 2) || s.eaters.get(e)[3] == side) return false;
            keep();
            s.eaters.get(e)[3] = side;
            return true;
        }

        int spoon(int e, int k) {
            if (!isEater(e) || !in(k, 0, 1) || s.spoons.size() == 60) return -1;
            int g = s.spoonful(e, k);
            if (g < 1) return -1;
            keep();
            s.eat(e, k, g);
            return g;
        }

        int judge(int side) {
            if (!in(side, 0, 1) || s.dents.size() == 30) return -1;
            int g = s.guilty(side) ? 1 : 0;
            keep();
            s.dents.add(new int[] {side, s.tilt(), g});
            return g;
        }

        int flies(int n) {
            if (!in(n, 1, 40)) return -1;
            keep();
            int gone = 0;
            while (n-- > 0) {
                int p = s.x % 4;
                s.x = (int) (((long) s.x * 181 + 101) % 30029);
                if (s.pots[p] > 0) { s.pots[p]--; gone++; }
            }
            return gone;
        }

        int feed(int[] f) {
            if (tape.length() + 20 > 300) return -1;
            StringBuilder b = new StringBuilder(tape);
            for (int w : f) for (int sh = 24; sh >= 0; sh -= 8) b.append((char) (w >> sh & 255));
            tape = b.toString();
            return tape.length();
        }

        int end(int n) {
            if (n < 0 || n > tape.length()) return -1;
            tape = tape.substring(0, n);
            return n;
        }

        int text() {
            if (s.texts.size() == 4) return -1;
            String t = tape;
            tape = "";
            try {
                Reading r = new Reading(t);
                fault = 0;
                place = -1;
                s.texts.add(r);
                return s.texts.size() - 1;
            } catch (Fault f) {
                fault = f.kind;
                place = f.place;
                return -1;
            }
        }

        int fault(int w) { return w == 0 ? fault : w == 1 ? place : -1; }
        boolean by(int t) { if (!in(t, -1, s.texts.size() - 1)) return false; s.ruling = t; return true; }

        int played(int t) {
            if (!in(t, 0, s.texts.size() - 1)) return -2;
            List<int[]> clauses = s.texts.get(t).clauses;
            for (int i = 0; i < clauses.size(); i++) {
                int[] c = clauses.get(i);
                boolean can = c[0] < 3 || c[0] == 3 && sit(c[1], c[2]) || c[0] == 4 && spoon(c[1], c[2]) >= 0
                        || c[0] == 5 && judge(c[1]) >= 0 || c[0] == 6 && flies(c[1]) >= 0;
                if (!can) return i;
            }
            return -1;
        }

        int undo() {
            if (s.steps.isEmpty()) return -1;
            State was = s.steps.remove(s.steps.size() - 1);
            s.pots = was.pots.clone();
            s.x = was.x;
            s.spoons = new ArrayList<>(was.spoons);
            s.dents = new ArrayList<>(was.dents);
            for (int e = 0; e < was.eaters.size(); e++) s.eaters.set(e, was.eaters.get(e).clone());
            return s.steps.size();
        }

        int of(int e, int w) {
            if (!isEater(e) || !in(w, 0, 7)) return -2;
            if (w < 5) return s.eaters.get(e)[w];
            return w == 5 ? s.room(e) : s.spoonful(e, w - 6);
        }

        int written(int i, int w) {
            if (i == -1) return s.spoons.size();
            return in(i, 0, s.spoons.size() - 1) && in(w, 0, 3) ? s.spoons.get(i)[w] : -2;
        }

        int dent(int i, int w) {
            if (i == -1) return s.dents.size();
            return in(i, 0, s.dents.size() - 1) && in(w, 0, 2) ? s.dents.get(i)[w] : -9999;
        }

        int called(int set, int kind, int i) {
            if (!in(kind, 0, 1) || !in(set, 1, (1 << s.eaters.size()) - 1) || Integer.bitCount(set) > 6) return -9999;
            List<Integer> who = new ArrayList<>();
            for (int e = 0; e < 9; e++) if ((set & 1 << e) != 0) who.add(e);
            for (int e : who) if (s.eaters.get(e)[3] == 2) return -9999;
            if (!in(i, -1, who.size() - 1)) return -9999;
            List<List<Integer>> orders = new ArrayList<>();
            permute(who, new ArrayList<>(), orders);
            List<Integer> best = null;
            int bestTilt = 0;
            for (List<Integer> order : orders) {
                State c = s.copy();
                for (int e : order) { int g = c.spoonful(e, kind); if (g > 0) c.eat(e, kind, g); }
                boolean better = best == null || Math.abs(c.tilt()) < Math.abs(bestTilt)
                        || Math.abs(c.tilt()) == Math.abs(bestTilt) && lower(order, best);
                if (better) { best = order; bestTilt = c.tilt(); }
            }
            return i == -1 ? bestTilt : best.get(i);
        }

        static boolean lower(List<Integer> a, List<Integer> b) {
            for (int i = 0; i < a.size(); i++) if (!a.get(i).equals(b.get(i))) return a.get(i) < b.get(i);
            return false;
        }

        static void permute(List<Integer> rest, List<Integer> head, List<List<Integer>> out) {
            if (rest.isEmpty()) { out.add(new ArrayList<>(head)); return; }
            for (int k = rest.size() - 1; k >= 0; k--) {
                List<Integer> r = new ArrayList<>(rest);
                head.add(r.remove(k));
                permute(r, head, out);
                head.remove(head.size() - 1);
            }
        }

        List<Integer> foundPath;
        int foundHoney;

        int acquitted(int side, int i) {
            if (!in(side, 0, 1)) return -3;
            foundPath = null;
            for (int d = 0; d <= 4 && foundPath == null; d++) seek(s.copy(), side, d, new ArrayList<>(), 0);
            if (foundPath == null) return -3;
            if (i == -1) return foundPath.size();
            if (i == -2) return foundHoney;
            return in(i, 0, foundPath.size() - 1) ? foundPath.get(i) : -3;
        }

        void seek(State c, int side, int left, List<Integer> path, int honey) {
            if (left == 0) {
                if (!c.guilty(side) && (foundPath == null || honey < foundHoney || honey == foundHoney && lower(path, foundPath))) {
                    foundPath = new ArrayList<>(path);
                    foundHoney = honey;
                }
                return;
            }
            for (int code = 2 * c.eaters.size() - 1; code >= 0; code--) {
                int e = code / 2, k = code % 2, g = c.spoonful(e, k);
                if (g < 1) continue;
                int[] it = c.eaters.get(e);
                c.eat(e, k, g);
                path.add(code);
                seek(c, side, left - 1, path, honey + (k == 0 ? g : 0));
                path.remove(path.size() - 1);
                c.spoons.remove(c.spoons.size() - 1);
                it[4] -= g;
                c.pots[2 * it[3] + k] += g;
            }
        }

        int sets(int side, int kind, int g, int i) {
            if (!in(side, 0, 1) || !in(kind, 0, 1) || !in(g, 0, 999)) return -1;
            List<Integer> all = new ArrayList<>();
            next:
            for (int set = 0; set < 1 << s.eaters.size(); set++) {
                State c = s.copy();
                for (int e = 0; e < 9; e++) {
                    if ((set & 1 << e) == 0) continue;
                    int eaten = c.spoonful(e, kind);
                    if (eaten < 1) continue next;
                    c.eat(e, kind, eaten);
                }
                if (c.pots[2 * side + kind] == g) all.add(set);
            }
            return i == -1 ? all.size() : in(i, 0, all.size() - 1) ? all.get(i) : -1;
        }

        int tested(int load, int hung) {
            if (!in(load, -20, 20) || !in(hung, -1, 1) || s.tests.size() == 12) return -1;
            s.tests.add(new int[] {load, hung});
            return s.tests.size();
        }

        int fits() {
            int bits = 0;
            for (int p = 0; p < 10; p++) {
                boolean fits = true;
                for (int[] t : s.tests) fits &= Integer.signum(t[0] + p) == t[1];
                if (fits) bits |= 1 << p;
            }
            return bits;
        }

        int next() {
            int bits = fits(), best = -99, bestMost = 99;
            if (bits == 0) return -99;
            for (int load = 20; load >= -20; load--) {
                int[] n = new int[3];
                for (int p = 0; p < 10; p++) if ((bits & 1 << p) != 0) n[1 + Integer.signum(load + p)]++;
                int most = Math.max(n[0], Math.max(n[1], n[2]));
                if (most <= bestMost) { bestMost = most; best = load; }
            }
            return best;
        }

        int hired(int need) {
            if (!in(need, 1, 9999)) return -1;
            List<int[]> can = new ArrayList<>();
            for (int set = 0; set < 1 << s.eaters.size(); set++) {
                int room = 0, price = 0;
                for (int e = 0; e < 9; e++) if ((set & 1 << e) != 0) { room += s.room(e); price += s.eaters.get(e)[2]; }
                if (room >= need) can.add(new int[] {price, Integer.bitCount(set), set});
            }
            return can.isEmpty() ? -1 : Collections.min(can, Arrays::compare)[2];
        }

        int contrary() {
            for (int j = 0; j < s.dents.size(); j++) for (int i = 0; i < j; i++) {
                int[] a = s.dents.get(i), b = s.dents.get(j);
                if (a[0] == b[0] && a[1] == b[1] && a[2] != b[2]) return 30 * i + j;
            }
            return -1;
        }

        long odds(int t, int n, boolean low) {
            if (!in(t, -9999, 9999) || !in(n, 0, 6)) return -1;
            long all = 1L << 2 * n, ways = 0;
            for (int w = 0; w < all; w++) {
                int[] p = s.pots.clone();
                for (int i = 0; i < n; i++) { int q = w >> 2 * i & 3; if (p[q] > 0) p[q]--; }
                if (p[0] + p[1] - p[2] - p[3] == t) ways++;
            }
            long g = java.math.BigInteger.valueOf(ways).gcd(java.math.BigInteger.valueOf(all)).longValue();
            return (low ? all : ways) / g;
        }

        int tell(int e, int g) {
            if (e == -1) { s.told.clear(); return 0; }
            if (!isEater(e) || !in(g, 1, 999) || s.told.size() == 20) return -2;
            s.told.add(new int[] {e, g});
            return s.told.size();
        }

        int over(int e) {
            int sum = 0;
            for (int[] sp : s.spoons) if (sp[0] == e) sum += sp[3];
            for (int[] t : s.told) if (t[0] == e) sum -= t[1];
            return sum;
        }

        int liars() {
            int bits = 0;
            for (int e = 0; e < s.eaters.size(); e++) if (over(e) != 0) bits |= 1 << e;
            return bits;
        }

        int inWhoseName(int e) {
            if (!isEater(e) || over(e) <= 0) return -1;
            for (int o = 0; o < s.eaters.size(); o++) if (o != e && over(o) == -over(e)) return o;
            return -1;
        }

        int image() { image = s.copy(); return s.spoons.size(); }
        int back() { s = image.copy(); return s.spoons.size(); }

        int about(int w) {
            if (!in(w, 0, 13)) return -2;
            int[] all = {s.eaters.size(), s.tilt() + 10000, s.dents.size(), s.x, s.texts.size(), s.ruling, s.steps.size(),
                s.tests.size(), s.told.size(), tape.length(), s.pots[0], s.pots[1], s.pots[2], s.pots[3]};
            return all[w];
        }
    }
}
