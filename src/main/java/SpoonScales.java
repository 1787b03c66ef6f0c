/** A court whose scale has pots of honey and salt on both sides; ../shared/DOC.md says what it promises. */
public final class SpoonScales {
    public static final int NONE = -1;

    private static final int OTHER = -2;
    private static final int NO_SPOONS = -3;
    private static final int NO_LOAD = -99;
    private static final int NO_ROW = -9999;

    private static final int MOST_EATERS = 9;
    private static final int MOST_SPOONS = 60;
    private static final int MOST_DENTS = 30;
    private static final int MOST_STEPS = 30;
    private static final int MOST_TEXTS = 4;
    private static final int MOST_BYTES = 300;
    private static final int FED_BYTES = 20;
    private static final int MOST_CLAUSES = 24;
    private static final int MOST_OPEN = 8;
    private static final int MOST_CALLED = 6;
    private static final int MOST_ACQUITTING = 4;
    private static final int MOST_TESTED = 12;
    private static final int MOST_TOLD = 20;
    private static final int MOST_FLIES = 40;
    private static final int MOST_ODD_FLIES = 6;
    private static final int MOST_SEED = 9999;
    private static final int MOST_GRAINS = 999;
    private static final int MOST_NUMBER = 9999;
    private static final int MOST_VALUE = 1000000;
    private static final int MOST_BITE = 99;
    private static final int MOST_HELD = 9999;
    private static final int MOST_TILT = 9999;
    private static final int MOST_LOAD = 20;
    private static final int PENNIES = 10;
    private static final int ALL_PENNIES = 1023;

    private static final int AWAY = 2;
    private static final int POTS = 4;
    private static final int SPOON_ROW = 4;
    private static final int DENT_ROW = 3;

    // A word's TOKEN is its place among these; the blank behind the last one ends it as the others end.
    private static final String WORDS = "eats holds guilty sit spoon judge flies at of or and not eater hunger stomachs eaten kind left spoons side tilt honey salt dents ";
    private static final int EATS = 0;
    private static final int HOLDS = 1;
    private static final int GUILTY = 2;
    private static final int SIT = 3;
    private static final int SPOON = 4;
    private static final int JUDGE = 5;
    private static final int FLIES = 6;
    private static final int AT = 7;
    private static final int OF = 8;
    private static final int OR = 9;
    private static final int AND = 10;
    private static final int NOT = 11;
    private static final int FIRST_NAME = 12;
    private static final int NAMES = 12;

    // A sign's TOKEN is FIRST_SIGN and its place among these.
    private static final String SIGNS = "<>=#+-*/();";
    private static final int FIRST_SIGN = 24;
    private static final int LESS = 24;
    private static final int MORE = 25;
    private static final int EQUAL = 26;
    private static final int UNLIKE = 27;
    private static final int PLUS = 28;
    private static final int MINUS = 29;
    private static final int TIMES = 30;
    private static final int OVER = 31;
    private static final int OPEN = 32;
    private static final int CLOSE = 33;
    private static final int STOP = 34;
    private static final int AT_MOST = 35;
    private static final int AT_LEAST = 36;
    private static final int NUMBER = 37;
    private static final int END = 38;
    private static final int UNKNOWN = 39;
    private static final int NEGATE = 40;

    // Code above all NUMBERS: CODED and the TOKEN of a NAME or of what is done.
    private static final int CODED = 10000;
    private static final int STACK = 64;

    private static final int NAMED_EATER = 0;
    private static final int NAMED_HUNGER = 1;
    private static final int NAMED_STOMACHS = 2;
    private static final int NAMED_EATEN = 3;
    private static final int NAMED_KIND = 4;
    private static final int NAMED_LEFT = 5;
    private static final int NAMED_SPOONS = 6;
    private static final int NAMED_SIDE = 7;
    private static final int NAMED_TILT = 8;
    private static final int NAMED_HONEY = 9;
    private static final int NAMED_SALT = 10;
    private static final int NAMED_DENTS = 11;

    // Which NAMES (bits) stand in eats, holds and guilty.
    private static final int[] NAMES_OF = {255, 15, 3968};

    private static final int FAULT_PLACE = 1;
    private static final int FAULT_NUMBER = 2;
    private static final int FAULT_DEEP = 3;
    private static final int FAULT_TWICE = 4;
    private static final int FAULT_NAME = 5;
    private static final int FAULT_CLAUSES = 6;

    // How many ways there are to choose k of n (0 .. 6), at 7 * n + k.
    private static final int[] CHOOSE = {
        1, 0, 0, 0, 0, 0, 0,
        1, 1, 0, 0, 0, 0, 0,
        1, 2, 1, 0, 0, 0, 0,
        1, 3, 3, 1, 0, 0, 0,
        1, 4, 6, 4, 1, 0, 0,
        1, 5, 10, 10, 5, 1, 0,
        1, 6, 15, 20, 15, 6, 1,
    };
    private static final int CHOOSE_ROW = 7;

    private final Trial trial;
    private final Bench bench;
    private final Court court;
    private final Court kept;
    private final Reader reader;
    private final int[] rooms;
    private int tapeLength;
    private int latestFault;
    private int latestPlace;
    private int soughtSide;

    public SpoonScales() {
        trial = new Trial();
        bench = trial.bench;
        court = bench.court;
        kept = new Court();
        reader = new Reader();
        rooms = new int[MOST_EATERS];
        tapeLength = 0;
        latestFault = NONE;
        latestPlace = NONE;
        soughtSide = NONE;
    }

    public boolean pot(int side, int kind, int grains) {
        if (!isSide(side) || !isKind(kind) || grains < 0 || grains > MOST_GRAINS) {
            return false;
        }
        forgetSought();
        court.now.pots[2 * side + kind] = grains;
        return true;
    }

    public int eater(int hunger, int stomachs, int price) {
        if (hunger < 0 || hunger > 9 || stomachs < 1 || stomachs > 9 || price < 0 || price > 99) {
            return NONE;
        }
        int number = court.eaters;
        if (number < 0 || number >= MOST_EATERS) {
            return NONE;
        }
        forgetSought();
        court.hunger[number] = hunger;
        court.stomachs[number] = stomachs;
        court.price[number] = price;
        court.eaters = number + 1;
        return number;
    }

    public boolean seed(int seed) {
        if (seed < 0 || seed > MOST_SEED) {
            return false;
        }
        court.now.x = seed * 5 + 3;
        return true;
    }

    public boolean sit(int eater, int side) {
        if (!isEater(eater) || (!isSide(side) && side != AWAY) || court.now.where[eater] == side) {
            return false;
        }
        forgetSought();
        court.keepStep();
        court.now.where[eater] = side;
        return true;
    }

    public int spoon(int eater, int kind) {
        if (!isEater(eater) || !isKind(kind) || court.now.spoons >= MOST_SPOONS) {
            return NONE;
        }
        int grains = bench.spoonful(court.now, eater, kind);
        if (grains < 1) {
            return NONE;
        }
        forgetSought();
        court.keepStep();
        court.writeSpoon(eater, kind, grains);
        court.now.eat(eater, kind, grains);
        return grains;
    }

    public int judge(int side) {
        if (!isSide(side) || court.now.dents >= MOST_DENTS) {
            return NONE;
        }
        int verdict = bench.isGuilty(court.now, side) ? 1 : 0;
        forgetSought();
        court.keepStep();
        court.writeDent(side, verdict);
        return verdict;
    }

    public int flies(int n) {
        if (n < 1 || n > MOST_FLIES) {
            return NONE;
        }
        forgetSought();
        court.keepStep();
        int gone = 0;
        for (int i = 0; i < n; i++) {
            int drawn = court.now.drawPot();
            if (court.now.pots[drawn] > 0) {
                court.now.pots[drawn]--;
                gone++;
            }
        }
        return gone;
    }

    public int feed(int a, int b, int c, int d, int e) {
        if (tapeLength > MOST_BYTES - FED_BYTES) {
            return NONE;
        }
        putBytes(a);
        putBytes(b);
        putBytes(c);
        putBytes(d);
        putBytes(e);
        return tapeLength;
    }

    public int end(int n) {
        if (n < 0 || n > tapeLength) {
            return NONE;
        }
        tapeLength = n;
        return n;
    }

    public int text() {
        int number = court.texts;
        if (number < 0 || number >= MOST_TEXTS) {
            return NONE;
        }
        reader.read(tapeLength, bench.laws[number]);
        tapeLength = 0;
        latestFault = reader.fault;
        latestPlace = reader.faultPlace;
        if (latestFault != 0) {
            return NONE;
        }
        court.texts = number + 1;
        return number;
    }

    public int fault(int what) {
        if (what == 0) {
            return latestFault;
        }
        return what == 1 ? latestPlace : NONE;
    }

    public boolean by(int text) {
        if (text != NONE && !isText(text)) {
            return false;
        }
        forgetSought();
        court.ruling = text;
        return true;
    }

    public int played(int text) {
        if (!isText(text)) {
            return OTHER;
        }
        Law law = bench.laws[text];
        for (int i = 0; i < law.clauses && i < MOST_CLAUSES; i++) {
            if (!playClause(law, i)) {
                return i;
            }
        }
        return NONE;
    }

    public int undo() {
        int left = court.steps - 1;
        if (left < 0 || left >= MOST_STEPS) {
            return NONE;
        }
        forgetSought();
        court.now.copyFrom(court.stepScenes[left]);
        court.steps = left;
        return left;
    }

    public int of(int eater, int what) {
        if (!isEater(eater)) {
            return OTHER;
        }
        switch (what) {
            case 0: return court.hunger[eater];
            case 1: return court.stomachs[eater];
            case 2: return court.price[eater];
            case 3: return court.now.where[eater];
            case 4: return court.now.eaten[eater];
            case 5: return bench.roomIn(court.now, eater);
            case 6: return bench.spoonful(court.now, eater, 0);
            case 7: return bench.spoonful(court.now, eater, 1);
            default: return OTHER;
        }
    }

    public int written(int i, int what) {
        if (i == NONE) {
            return court.now.spoons;
        }
        if (i < 0 || i >= court.now.spoons || i >= MOST_SPOONS || what < 0 || what >= SPOON_ROW) {
            return OTHER;
        }
        return court.spoonRows[SPOON_ROW * i + what];
    }

    public int dent(int i, int what) {
        if (i == NONE) {
            return court.now.dents;
        }
        if (i < 0 || i >= court.now.dents || i >= MOST_DENTS || what < 0 || what >= DENT_ROW) {
            return NO_ROW;
        }
        return court.dentRows[DENT_ROW * i + what];
    }

    public int called(int set, int kind, int i) {
        if (!isKind(kind) || !canBeCalled(set) || i < NONE || i >= Integer.bitCount(set)) {
            return NO_ROW;
        }
        trial.callInBestOrder(set, kind);
        if (i == NONE) {
            return trial.bestTilt;
        }
        return i < MOST_CALLED ? trial.best[i] : NO_ROW;
    }

    public int acquitted(int side, int i) {
        if (!isSide(side)) {
            return NO_SPOONS;
        }
        // The search is long, and its answer is asked for number by number: it is kept while nothing changes.
        if (soughtSide != side) {
            trial.seekAcquittal(side);
            soughtSide = side;
        }
        int found = trial.found;
        if (found == NONE) {
            return NO_SPOONS;
        }
        if (i == NONE) {
            return found;
        }
        if (i == -2) {
            return trial.foundHoney;
        }
        return i >= 0 && i < found && i < MOST_ACQUITTING ? trial.acquitting[i] : NO_SPOONS;
    }

    public int sets(int side, int kind, int g, int i) {
        if (!isSide(side) || !isKind(kind) || g < 0 || g > MOST_GRAINS || i < NONE) {
            return NONE;
        }
        int count = 0;
        for (int set = 0; set < 1 << court.eaters; set++) {
            if (trial.leavesJust(set, 2 * side + kind, g)) {
                if (count == i) {
                    return set;
                }
                count++;
            }
        }
        return i == NONE ? count : NONE;
    }

    public int tested(int load, int hung) {
        if (load < -MOST_LOAD || load > MOST_LOAD || hung < -1 || hung > 1 || court.tests >= MOST_TESTED) {
            return NONE;
        }
        for (int penny = 0; penny < PENNIES; penny++) {
            if (hang(load + penny) != hung) {
                court.fitting &= ~(1 << penny);
            }
        }
        court.tests++;
        return court.tests;
    }

    public int fits() {
        return court.fitting;
    }

    public int next() {
        if (court.fitting == 0) {
            return NO_LOAD;
        }
        int best = -MOST_LOAD;
        int fewest = mostAlike(best);
        for (int load = -MOST_LOAD + 1; load <= MOST_LOAD; load++) {
            int most = mostAlike(load);
            if (most < fewest) {
                fewest = most;
                best = load;
            }
        }
        return best;
    }

    public int hired(int need) {
        if (need < 1 || need > 9999) {
            return NONE;
        }
        for (int e = 0; e < court.eaters && e < rooms.length; e++) {
            rooms[e] = bench.roomIn(court.now, e);
        }
        int best = NONE;
        int bestCost = 0;
        for (int set = 1; set < 1 << court.eaters; set++) {
            // The PRICE counts first, then how many; sets come by number, so the lowest of like ones stays.
            int cost = priceOf(set) * 10 + Integer.bitCount(set);
            if (roomOf(set) >= need && (best == NONE || cost < bestCost)) {
                best = set;
                bestCost = cost;
            }
        }
        return best;
    }

    public int contrary() {
        for (int later = 1; later < court.now.dents && later < MOST_DENTS; later++) {
            for (int earlier = 0; earlier < later; earlier++) {
                if (court.contradict(earlier, later)) {
                    return 30 * earlier + later;
                }
            }
        }
        return NONE;
    }

    public long odds(int t, int n, boolean low) {
        if (t < -MOST_TILT || t > MOST_TILT || n < 0 || n > MOST_ODD_FLIES) {
            return NONE;
        }
        int ways = waysTo(t, n);
        int all = 1 << (2 * n);
        // Only twos can be common to both, as all the ways are a power of 4.
        for (int k = 0; k < 2 * n && (ways & 1) == 0; k++) {
            ways >>= 1;
            all >>= 1;
        }
        return low ? all : ways;
    }

    public int tell(int eater, int grains) {
        if (eater == NONE) {
            court.forgetTold();
            return 0;
        }
        if (!isEater(eater) || grains < 1 || grains > MOST_GRAINS || court.told >= MOST_TOLD) {
            return OTHER;
        }
        court.toldGrains[eater] += grains;
        court.told++;
        return court.told;
    }

    public int liars() {
        int bits = 0;
        for (int e = 0; e < court.eaters && e < MOST_EATERS; e++) {
            if (court.untold(e) != 0) {
                bits |= 1 << e;
            }
        }
        return bits;
    }

    public int inWhoseName(int eater) {
        if (!isEater(eater) || court.untold(eater) < 1) {
            return NONE;
        }
        int untold = court.untold(eater);
        for (int e = 0; e < court.eaters && e < MOST_EATERS; e++) {
            if (e != eater && court.untold(e) == -untold) {
                return e;
            }
        }
        return NONE;
    }

    public int image() {
        kept.copyFrom(court);
        return court.now.spoons;
    }

    public int back() {
        forgetSought();
        court.copyFrom(kept);
        return court.now.spoons;
    }

    public int about(int what) {
        switch (what) {
            case 0: return court.eaters;
            case 1: return court.now.tilt() + 10000;
            case 2: return court.now.dents;
            case 3: return court.now.x;
            case 4: return court.texts;
            case 5: return court.ruling;
            case 6: return court.steps;
            case 7: return court.tests;
            case 8: return court.told;
            case 9: return tapeLength;
            default: return what >= 10 && what < 10 + POTS ? court.now.pots[what - 10] : OTHER;
        }
    }

    private static boolean isSide(int side) {
        return side == 0 || side == 1;
    }

    private static boolean isKind(int kind) {
        return kind == 0 || kind == 1;
    }

    private boolean isEater(int eater) {
        return eater >= 0 && eater < court.eaters && eater < MOST_EATERS;
    }

    private boolean isText(int text) {
        return text >= 0 && text < court.texts && text < MOST_TEXTS;
    }

    private void forgetSought() {
        soughtSide = NONE;
    }

    private void putBytes(int word) {
        for (int shift = 24; shift >= 0; shift -= 8) {
            if (tapeLength < reader.tape.length) {
                reader.tape[tapeLength] = (word >>> shift) & 255;
                tapeLength++;
            }
        }
    }

    private boolean playClause(Law law, int i) {
        int first = law.firsts[i];
        int second = law.seconds[i];
        switch (law.verbs[i]) {
            case SIT: return sit(first, second);
            case SPOON: return spoon(first, second) != NONE;
            case JUDGE: return judge(first) != NONE;
            case FLIES: return flies(first) != NONE;
            default: return true;
        }
    }

    private boolean canBeCalled(int set) {
        if (set < 1 || set >= 1 << court.eaters || Integer.bitCount(set) > MOST_CALLED) {
            return false;
        }
        for (int e = 0; e < MOST_EATERS; e++) {
            if ((set >> e & 1) == 1 && court.now.where[e] == AWAY) {
                return false;
            }
        }
        return true;
    }

    private static int hang(int weight) {
        if (weight == 0) {
            return 0;
        }
        return weight > 0 ? 1 : -1;
    }

    /** Of the PENNIES that FIT, how many hang alike by a load at most. */
    private int mostAlike(int load) {
        int down = 0;
        int up = 0;
        int level = 0;
        for (int penny = 0; penny < PENNIES; penny++) {
            if ((court.fitting >> penny & 1) == 1) {
                int hung = hang(load + penny);
                down += hung == 1 ? 1 : 0;
                up += hung == -1 ? 1 : 0;
                level += hung == 0 ? 1 : 0;
            }
        }
        return Math.max(level, Math.max(down, up));
    }

    private int priceOf(int set) {
        int sum = 0;
        for (int e = 0; e < MOST_EATERS; e++) {
            sum += (set >> e & 1) == 1 ? court.price[e] : 0;
        }
        return sum;
    }

    private int roomOf(int set) {
        int sum = 0;
        for (int e = 0; e < MOST_EATERS; e++) {
            sum += (set >> e & 1) == 1 ? rooms[e] : 0;
        }
        return sum;
    }

    /** How many of the 4 to the n ways of n FLIES lead to TILT t, by how many of them come to each POT. */
    private int waysTo(int t, int n) {
        int[] pots = court.now.pots;
        int ways = 0;
        for (int a = 0; a <= n; a++) {
            for (int b = 0; a + b <= n; b++) {
                for (int c = 0; a + b + c <= n; c++) {
                    int d = n - a - b - c;
                    int gone0 = Math.min(a, pots[0]) + Math.min(b, pots[1]);
                    int gone1 = Math.min(c, pots[2]) + Math.min(d, pots[3]);
                    if (court.now.tilt() - gone0 + gone1 == t) {
                        ways += chosen(n, a) * chosen(n - a, b) * chosen(n - a - b, c);
                    }
                }
            }
        }
        return ways;
    }

    private static int chosen(int n, int k) {
        if (n < 0 || n > MOST_ODD_FLIES || k < 0 || k > n) {
            return 0;
        }
        return CHOOSE[CHOOSE_ROW * n + k];
    }

    /** What a STEP changes, and what is as ahead of it when it is taken back. */
    private static final class Scene {
        final int[] pots;
        final int[] where;
        final int[] eaten;
        int spoons;
        int dents;
        int x;

        Scene() {
            pots = new int[POTS];
            where = new int[MOST_EATERS];
            eaten = new int[MOST_EATERS];
            for (int e = 0; e < where.length; e++) {
                where[e] = AWAY;
            }
            spoons = 0;
            dents = 0;
            x = 3;
        }

        void copyFrom(Scene other) {
            System.arraycopy(other.pots, 0, pots, 0, POTS);
            System.arraycopy(other.where, 0, where, 0, MOST_EATERS);
            System.arraycopy(other.eaten, 0, eaten, 0, MOST_EATERS);
            spoons = other.spoons;
            dents = other.dents;
            x = other.x;
        }

        int tilt() {
            return pots[0] + pots[1] - pots[2] - pots[3];
        }

        int drawPot() {
            int drawn = x & 3;
            x = (x * 181 + 101) % 30029;
            return drawn;
        }

        void eat(int eater, int kind, int grains) {
            int side = where[eater];
            if (side != AWAY && grains > 0) {
                pots[2 * side + kind] -= grains;
                eaten[eater] += grains;
                spoons++;
            }
        }

        void giveBack(int eater, int kind, int grains) {
            int side = where[eater];
            if (side != AWAY && grains > 0) {
                pots[2 * side + kind] += grains;
                eaten[eater] -= grains;
                spoons--;
            }
        }
    }

    /** All that an IMAGE keeps; of the TEXTS their number is enough, as they are only added to. */
    private static final class Court {
        final Scene now;
        final Scene[] stepScenes;
        int steps;
        final int[] hunger;
        final int[] stomachs;
        final int[] price;
        int eaters;
        final int[] spoonRows;
        final int[] dentRows;
        int texts;
        int ruling;
        int fitting;
        int tests;
        final int[] toldGrains;
        int told;

        Court() {
            now = new Scene();
            stepScenes = new Scene[MOST_STEPS];
            for (int i = 0; i < stepScenes.length; i++) {
                stepScenes[i] = new Scene();
            }
            hunger = new int[MOST_EATERS];
            stomachs = new int[MOST_EATERS];
            price = new int[MOST_EATERS];
            spoonRows = new int[MOST_SPOONS * SPOON_ROW];
            dentRows = new int[MOST_DENTS * DENT_ROW];
            ruling = NONE;
            fitting = ALL_PENNIES;
            toldGrains = new int[MOST_EATERS];
        }

        void copyFrom(Court other) {
            now.copyFrom(other.now);
            steps = other.steps;
            for (int i = 0; i < steps && i < stepScenes.length; i++) {
                stepScenes[i].copyFrom(other.stepScenes[i]);
            }
            System.arraycopy(other.hunger, 0, hunger, 0, MOST_EATERS);
            System.arraycopy(other.stomachs, 0, stomachs, 0, MOST_EATERS);
            System.arraycopy(other.price, 0, price, 0, MOST_EATERS);
            eaters = other.eaters;
            System.arraycopy(other.spoonRows, 0, spoonRows, 0, MOST_SPOONS * SPOON_ROW);
            System.arraycopy(other.dentRows, 0, dentRows, 0, MOST_DENTS * DENT_ROW);
            texts = other.texts;
            ruling = other.ruling;
            fitting = other.fitting;
            tests = other.tests;
            System.arraycopy(other.toldGrains, 0, toldGrains, 0, MOST_EATERS);
            told = other.told;
        }

        /** Keeps the scene as it is ahead of a STEP; the oldest one makes room. */
        void keepStep() {
            if (steps >= stepScenes.length) {
                Scene oldest = stepScenes[0];
                for (int i = 1; i < stepScenes.length; i++) {
                    stepScenes[i - 1] = stepScenes[i];
                }
                stepScenes[stepScenes.length - 1] = oldest;
                steps = stepScenes.length - 1;
            }
            stepScenes[steps].copyFrom(now);
            steps++;
        }

        void writeSpoon(int eater, int kind, int grains) {
            int row = now.spoons;
            if (row >= 0 && row < MOST_SPOONS) {
                spoonRows[SPOON_ROW * row] = eater;
                spoonRows[SPOON_ROW * row + 1] = now.where[eater];
                spoonRows[SPOON_ROW * row + 2] = kind;
                spoonRows[SPOON_ROW * row + 3] = grains;
            }
        }

        void writeDent(int side, int verdict) {
            int row = now.dents;
            if (row >= 0 && row < MOST_DENTS) {
                dentRows[DENT_ROW * row] = side;
                dentRows[DENT_ROW * row + 1] = now.tilt();
                dentRows[DENT_ROW * row + 2] = verdict;
                now.dents = row + 1;
            }
        }

        boolean contradict(int earlier, int later) {
            int one = DENT_ROW * earlier;
            int other = DENT_ROW * later;
            return dentRows[one] == dentRows[other] && dentRows[one + 1] == dentRows[other + 1]
                    && dentRows[one + 2] != dentRows[other + 2];
        }

        /** What an EATER ate more than was TOLD; EATEN is always what its SPOONS have together. */
        int untold(int eater) {
            return now.eaten[eater] - toldGrains[eater];
        }

        void forgetTold() {
            for (int e = 0; e < toldGrains.length; e++) {
                toldGrains[e] = 0;
            }
            told = 0;
        }
    }

    /** A TEXT as it was read: its laws as code, what is done behind what it is done to, and its clauses. */
    private static final class Law {
        final int[] code;
        int length;
        final int[] from;
        final int[] till;
        final int[] verbs;
        final int[] firsts;
        final int[] seconds;
        int clauses;

        Law() {
            code = new int[MOST_BYTES];
            from = new int[3];
            till = new int[3];
            verbs = new int[MOST_CLAUSES];
            firsts = new int[MOST_CLAUSES];
            seconds = new int[MOST_CLAUSES];
            wipe();
        }

        void wipe() {
            length = 0;
            clauses = 0;
            for (int verb = EATS; verb <= GUILTY; verb++) {
                from[verb] = NONE;
                till[verb] = NONE;
            }
        }

        boolean has(int verb) {
            return from[verb] != NONE;
        }

        void emit(int what) {
            if (length >= 0 && length < code.length) {
                code[length] = what;
                length++;
            }
        }
    }

    /** Says by THE TEXT how much one eats, how much one holds and who is guilty, in any scene. */
    private static final class Bench {
        final Court court;
        final Law[] laws;
        private final int[] values;
        private final int[] stack;

        Bench() {
            court = new Court();
            laws = new Law[MOST_TEXTS];
            for (int i = 0; i < laws.length; i++) {
                laws[i] = new Law();
            }
            values = new int[NAMES];
            stack = new int[STACK];
        }

        /** The GRAINS of a SPOON, 0 if it can't be. */
        int spoonful(Scene scene, int eater, int kind) {
            int side = scene.where[eater];
            if (side == AWAY) {
                return 0;
            }
            int left = scene.pots[2 * side + kind];
            int most = Math.min(left, left < 1 ? 0 : roomIn(scene, eater));
            return most < 1 ? 0 : Math.min(most, biteOf(scene, eater, kind));
        }

        /** What an EATER still HOLDS. */
        int roomIn(Scene scene, int eater) {
            Law law = ruling();
            int held = 20 * court.stomachs[eater];
            if (law != null && law.has(HOLDS)) {
                nameEater(scene, eater);
                held = Math.max(0, Math.min(MOST_HELD, reckon(law, HOLDS)));
            }
            return Math.max(0, held - scene.eaten[eater]);
        }

        boolean isGuilty(Scene scene, int side) {
            Law law = ruling();
            int tilt = scene.tilt();
            if (law == null || !law.has(GUILTY)) {
                return side == 0 ? tilt < 0 : tilt > 0;
            }
            values[NAMED_SIDE] = side;
            values[NAMED_TILT] = tilt;
            values[NAMED_HONEY] = scene.pots[2 * side];
            values[NAMED_SALT] = scene.pots[2 * side + 1];
            values[NAMED_DENTS] = scene.dents;
            return reckon(law, GUILTY) != 0;
        }

        private int biteOf(Scene scene, int eater, int kind) {
            Law law = ruling();
            if (law == null || !law.has(EATS)) {
                return court.hunger[eater] + 1;
            }
            nameEater(scene, eater);
            values[NAMED_KIND] = kind;
            values[NAMED_LEFT] = scene.pots[2 * scene.where[eater] + kind];
            values[NAMED_SPOONS] = scene.spoons;
            values[NAMED_SIDE] = scene.where[eater];
            return Math.max(0, Math.min(MOST_BITE, reckon(law, EATS)));
        }

        private Law ruling() {
            int number = court.ruling;
            return number < 0 || number >= laws.length ? null : laws[number];
        }

        private void nameEater(Scene scene, int eater) {
            values[NAMED_EATER] = eater;
            values[NAMED_HUNGER] = court.hunger[eater];
            values[NAMED_STOMACHS] = court.stomachs[eater];
            values[NAMED_EATEN] = scene.eaten[eater];
        }

        private int reckon(Law law, int verb) {
            int top = 0;
            for (int i = law.from[verb]; i >= 0 && i < law.till[verb] && i < law.code.length; i++) {
                int code = law.code[i];
                int token = code - CODED;
                if (isValue(code) && top < stack.length) {
                    stack[top] = code < CODED ? code : values[token - FIRST_NAME];
                    top++;
                } else if (token == NEGATE && top >= 1) {
                    stack[top - 1] = -stack[top - 1];
                } else if (token == NOT && top >= 1) {
                    stack[top - 1] = 1 - stack[top - 1];
                } else if (top >= 2) {
                    top--;
                    stack[top - 1] = combine(token, stack[top - 1], stack[top]);
                }
            }
            return top < 1 ? 0 : stack[0];
        }

        private static boolean isValue(int code) {
            return code < CODED || (code >= CODED + FIRST_NAME && code < CODED + FIRST_NAME + NAMES);
        }

        private static int combine(int token, int a, int b) {
            switch (token) {
                case OR: return a | b;
                case AND: return a & b;
                case LESS: return a < b ? 1 : 0;
                case MORE: return a > b ? 1 : 0;
                case AT_MOST: return a <= b ? 1 : 0;
                case AT_LEAST: return a >= b ? 1 : 0;
                case EQUAL: return a == b ? 1 : 0;
                case UNLIKE: return a != b ? 1 : 0;
                case OVER: return b == 0 ? 0 : a / b;
                default: break;
            }
            long value = (long) a * b;
            if (token == PLUS) {
                value = a + b;
            } else if (token == MINUS) {
                value = a - b;
            }
            if (value > MOST_VALUE) {
                return MOST_VALUE;
            }
            return value < -MOST_VALUE ? -MOST_VALUE : (int) value;
        }
    }

    /** Tries SPOONS in a scene of its own, so that nothing changes. */
    private static final class Trial {
        final Bench bench;
        private final Court court;
        private final Scene scene;
        private final int[] path;
        private final int[] amounts;
        final int[] best;
        int bestTilt;
        final int[] acquitting;
        int found;
        int foundHoney;
        private int judged;
        private int goal;

        Trial() {
            bench = new Bench();
            court = bench.court;
            scene = new Scene();
            path = new int[MOST_CALLED];
            amounts = new int[MOST_CALLED];
            best = new int[MOST_CALLED];
            acquitting = new int[MOST_ACQUITTING];
            found = NONE;
        }

        /** Whether all of a set can eat, by number, and leave just so many GRAINS in a POT. */
        boolean leavesJust(int set, int pot, int grains) {
            scene.copyFrom(court.now);
            int kind = pot & 1;
            for (int e = 0; e < court.eaters; e++) {
                if ((set >> e & 1) == 1) {
                    int eaten = bench.spoonful(scene, e, kind);
                    if (eaten < 1) {
                        return false;
                    }
                    scene.eat(e, kind, eaten);
                }
            }
            return scene.pots[pot] == grains;
        }

        void callInBestOrder(int set, int kind) {
            scene.copyFrom(court.now);
            bestTilt = NO_ROW;
            callRest(set, kind, 0);
        }

        /** Orders come by their first EATER, then their second, ..: so the first of like ones stays. */
        private void callRest(int set, int kind, int depth) {
            if (set == 0 || depth >= MOST_CALLED) {
                if (Math.abs(scene.tilt()) < Math.abs(bestTilt)) {
                    bestTilt = scene.tilt();
                    System.arraycopy(path, 0, best, 0, MOST_CALLED);
                }
                return;
            }
            for (int e = 0; e < court.eaters; e++) {
                if ((set >> e & 1) == 1) {
                    int grains = bench.spoonful(scene, e, kind);
                    path[depth] = e;
                    scene.eat(e, kind, grains);
                    callRest(set & ~(1 << e), kind, depth + 1);
                    scene.giveBack(e, kind, grains);
                }
            }
        }

        void seekAcquittal(int side) {
            scene.copyFrom(court.now);
            judged = side;
            found = NONE;
            foundHoney = 0;
            if (!bench.isGuilty(scene, side)) {
                found = 0;
                return;
            }
            for (int spoons = 1; spoons <= MOST_ACQUITTING && found == NONE; spoons++) {
                goal = spoons;
                trySpoons(0, 0);
            }
        }

        /** Orders come by the lowest first SPOON, then second, ..: of like HONEY the first one stays. */
        private void trySpoons(int depth, int honey) {
            if (depth >= MOST_ACQUITTING) {
                return;
            }
            for (int code = 0; code < 2 * court.eaters; code++) {
                int grains = bench.spoonful(scene, code >> 1, code & 1);
                int honeyThen = (code & 1) == 0 ? honey + grains : honey;
                boolean last = depth + 1 >= goal;
                if (grains < 1 || (found != NONE && honeyThen >= foundHoney)
                        || (!last && swaps(depth, code, grains))) {
                    continue;
                }
                path[depth] = code;
                amounts[depth] = grains;
                scene.eat(code >> 1, code & 1, grains);
                if (!last) {
                    trySpoons(depth + 1, honeyThen);
                } else if (!bench.isGuilty(scene, judged)) {
                    keepFound(honeyThen);
                }
                scene.giveBack(code >> 1, code & 1, grains);
            }
        }

        private void keepFound(int honey) {
            found = goal;
            foundHoney = honey;
            System.arraycopy(path, 0, acquitting, 0, MOST_ACQUITTING);
        }

        /**
         * Whether this SPOON and the one ahead of it, a higher one, lead to the same the other way round: then
         * the lower way has been tried already, and this one can't be better.
         */
        private boolean swaps(int depth, int code, int grains) {
            if (depth < 1 || path[depth - 1] <= code) {
                return false;
            }
            int ahead = path[depth - 1];
            int eaten = amounts[depth - 1];
            scene.giveBack(ahead >> 1, ahead & 1, eaten);
            boolean same = bench.spoonful(scene, code >> 1, code & 1) == grains;
            if (same) {
                scene.eat(code >> 1, code & 1, grains);
                same = bench.spoonful(scene, ahead >> 1, ahead & 1) == eaten;
                scene.giveBack(code >> 1, code & 1, grains);
            }
            scene.eat(ahead >> 1, ahead & 1, eaten);
            return same;
        }
    }

    /** Reads a TEXT from the left, TOKEN by TOKEN, and stops at its first FAULT. */
    private static final class Reader {
        final int[] tape;
        private int tapeLength;
        private int at;
        private int token;
        private int place;
        private int value;
        private Law law;
        int fault;
        int faultPlace;
        private final int[] waiting;
        private int waits;
        private int open;
        private int brackets;
        private boolean wantsOne;
        private boolean compared;

        Reader() {
            tape = new int[MOST_BYTES];
            waiting = new int[STACK];
        }

        void read(int length, Law into) {
            tapeLength = Math.min(length, tape.length);
            at = 0;
            fault = 0;
            faultPlace = NONE;
            law = into;
            law.wipe();
            advance();
            for (int n = 0; n <= MOST_CLAUSES && fault == 0 && token != END; n++) {
                readClause(n);
            }
        }

        private void fail(int kind) {
            if (fault == 0) {
                fault = kind;
                faultPlace = place;
            }
        }

        private void advance() {
            for (; at < tapeLength && (tape[at] == 32 || tape[at] == 10); at++) {
                // Blanks stand aside.
            }
            place = at;
            if (at >= tapeLength) {
                token = END;
            } else if (isLetter(tape[at])) {
                for (; at < tapeLength && isLetter(tape[at]); at++) {
                    // A word is as long as it can be.
                }
                token = wordAt(place, at);
            } else if (isDigit(tape[at])) {
                readNumber();
            } else {
                readSign();
            }
        }

        private static boolean isLetter(int b) {
            return (b >= 'a' && b <= 'z') || (b >= 'A' && b <= 'Z');
        }

        private static boolean isDigit(int b) {
            return b >= '0' && b <= '9';
        }

        private int wordAt(int from, int till) {
            int word = 0;
            int k = from;
            boolean same = true;
            for (int i = 0; i < WORDS.length(); i++) {
                char c = WORDS.charAt(i);
                if (c == ' ') {
                    if (same && k == till) {
                        return word;
                    }
                    word++;
                    k = from;
                    same = true;
                } else if (same && k < till && tape[k] == c) {
                    k++;
                } else {
                    same = false;
                }
            }
            return UNKNOWN;
        }

        private void readNumber() {
            token = NUMBER;
            value = 0;
            for (; at < tapeLength && isDigit(tape[at]); at++) {
                // What is too much stays too much, however many digits come yet.
                value = Math.min(MOST_NUMBER + 1, value * 10 + tape[at] - '0');
            }
        }

        private void readSign() {
            int sign = SIGNS.indexOf((char) tape[at]);
            token = sign < 0 ? UNKNOWN : FIRST_SIGN + sign;
            at++;
            if ((token == LESS || token == MORE) && at < tapeLength && tape[at] == '=') {
                token = token == LESS ? AT_MOST : AT_LEAST;
                at++;
            }
        }

        private void readClause(int n) {
            int verb = token;
            if (verb < EATS || verb > FLIES) {
                fail(FAULT_PLACE);
            } else if (verb <= GUILTY && law.has(verb)) {
                fail(FAULT_TWICE);
            } else if (n >= MOST_CLAUSES) {
                fail(FAULT_CLAUSES);
            } else {
                law.verbs[n] = verb;
                law.clauses = n + 1;
                advance();
                if (verb <= GUILTY) {
                    readLaw(verb);
                } else {
                    readDeed(verb, n);
                }
            }
        }

        private void readDeed(int verb, int n) {
            if (verb == SIT) {
                law.firsts[n] = readNumberOf(0, MOST_EATERS - 1);
                expect(AT);
                law.seconds[n] = readNumberOf(0, AWAY);
            } else if (verb == SPOON) {
                law.firsts[n] = readNumberOf(0, MOST_EATERS - 1);
                expect(OF);
                law.seconds[n] = readNumberOf(0, 1);
            } else if (verb == JUDGE) {
                law.firsts[n] = readNumberOf(0, 1);
            } else {
                law.firsts[n] = readNumberOf(1, MOST_FLIES);
            }
            expect(STOP);
        }

        private void expect(int due) {
            if (fault == 0) {
                if (token != due) {
                    fail(FAULT_PLACE);
                } else {
                    advance();
                }
            }
        }

        private int readNumberOf(int least, int most) {
            if (fault != 0) {
                return 0;
            }
            int number = value;
            if (token != NUMBER) {
                fail(FAULT_PLACE);
            } else if (number < least || number > most) {
                fail(FAULT_NUMBER);
            } else {
                advance();
            }
            return number;
        }

        /** What is to be done waits till what it binds to is there, so that no call need call itself. */
        private void readLaw(int verb) {
            law.from[verb] = law.length;
            waits = 0;
            open = 0;
            brackets = 0;
            wantsOne = true;
            compared = false;
            boolean stopped = false;
            for (int n = 0; n <= MOST_BYTES && fault == 0 && !stopped; n++) {
                if (wantsOne) {
                    readOne(verb);
                } else if (token == STOP && brackets == 0 && compared == (verb == GUILTY)) {
                    stopped = true;
                } else {
                    readBetween(verb);
                }
                if (fault == 0) {
                    advance();
                }
            }
            release(bindingOf(OR));
            law.till[verb] = law.length;
        }

        /** A TOKEN where a ONE is due, or a not ahead of an ASK. */
        private void readOne(int verb) {
            if (token == NUMBER) {
                if (value > MOST_NUMBER) {
                    fail(FAULT_NUMBER);
                }
                law.emit(value);
                wantsOne = false;
            } else if (token >= FIRST_NAME && token < FIRST_NAME + NAMES) {
                if ((NAMES_OF[verb] >> (token - FIRST_NAME) & 1) == 0) {
                    fail(FAULT_NAME);
                }
                law.emit(CODED + token);
                wantsOne = false;
            } else if (token == OPEN) {
                brackets++;
                openUp(OPEN);
            } else if (token == MINUS) {
                openUp(NEGATE);
            } else if (token == NOT && verb == GUILTY && isAheadOfAsk()) {
                openUp(NOT);
            } else {
                fail(FAULT_PLACE);
            }
        }

        /** A TOKEN behind a ONE that isn't the end of its CLAUSE. */
        private void readBetween(int verb) {
            boolean outside = brackets == 0;
            if (token >= PLUS && token <= OVER) {
                hold();
            } else if (isComparison(token) && verb == GUILTY && outside && !compared) {
                hold();
                compared = true;
            } else if ((token == AND || token == OR) && outside && compared) {
                hold();
                compared = false;
            } else if (token == CLOSE && !outside) {
                // All binds closer than what is open: this stops at the bracket.
                release(bindingOf(OR));
                dropWaiting();
                brackets--;
            } else {
                fail(FAULT_PLACE);
            }
        }

        private static boolean isComparison(int sign) {
            return (sign >= LESS && sign <= UNLIKE) || sign == AT_MOST || sign == AT_LEAST;
        }

        private boolean isAheadOfAsk() {
            int last = waits > 0 && waits <= waiting.length ? waiting[waits - 1] : OR;
            return last == OR || last == AND || last == NOT;
        }

        private void openUp(int what) {
            if (open >= MOST_OPEN) {
                fail(FAULT_DEEP);
                return;
            }
            open++;
            putWaiting(what);
        }

        /** A - of one ONE binds closest, so it is closed here ahead of all that can open behind it. */
        private void hold() {
            release(bindingOf(token));
            putWaiting(token);
            wantsOne = true;
        }

        private void putWaiting(int what) {
            if (waits >= 0 && waits < waiting.length) {
                waiting[waits] = what;
                waits++;
            }
        }

        private void dropWaiting() {
            if (waits > 0 && waits <= waiting.length) {
                waits--;
                int what = waiting[waits];
                open -= what == OPEN || what == NOT || what == NEGATE ? 1 : 0;
            }
        }

        /** What waits and binds at least so close can be done now. */
        private void release(int binding) {
            for (int n = 0; n < STACK && waits > 0 && waits <= waiting.length; n++) {
                int what = waiting[waits - 1];
                if (bindingOf(what) < binding) {
                    return;
                }
                law.emit(CODED + what);
                dropWaiting();
            }
        }

        private static int bindingOf(int what) {
            switch (what) {
                case OPEN: return 0;
                case OR: return 1;
                case AND: return 2;
                case NOT: return 3;
                case PLUS:
                case MINUS: return 5;
                case TIMES:
                case OVER: return 6;
                case NEGATE: return 7;
                default: return 4;
            }
        }
    }
}
