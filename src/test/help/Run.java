import java.lang.reflect.InvocationTargetException;
import java.lang.reflect.Method;
import java.util.ArrayList;
import java.util.Arrays;
import java.util.HashMap;
import java.util.List;
import java.util.Map;

/** Calls on one new object, each beside the answer that is due; they are kept, so that they can be made again. */
final class Run {
    static final int LEAST = Integer.MIN_VALUE;
    static final int MOST = Integer.MAX_VALUE;

    // What later calls answer is free, so no case may look at it.
    private static final int MOST_CALLS = 512;
    private static final int VIEWS = 7;
    private static final Map<String, Method> FACE = face();

    private final SpoonScales scales = new SpoonScales();
    private final List<Object[]> made = new ArrayList<>();

    private static Map<String, Method> face() {
        Map<String, Method> face = new HashMap<>();
        for (Method m : SpoonScales.class.getMethods()) if (m.getDeclaringClass() == SpoonScales.class) face.put(m.getName(), m);
        return face;
    }

    /** A run on a court with so many GRAINS in its POTS. */
    static Run pots(int honey0, int salt0, int honey1, int salt1) {
        return new Run().due(true, "pot", 0, 0, honey0).due(true, "pot", 0, 1, salt0).due(true, "pot", 1, 0, honey1).due(true, "pot", 1, 1, salt1);
    }

    /** A call: its name, then what it is given. A boolean counts 1 or 0. */
    long call(Object... call) {
        made.add(call);
        if (made.size() > MOST_CALLS) throw new IllegalStateException("more than " + MOST_CALLS + " calls");
        try {
            Object answer = FACE.get((String) call[0]).invoke(scales, Arrays.copyOfRange(call, 1, call.length));
            return answer instanceof Boolean ? ((Boolean) answer ? 1 : 0) : ((Number) answer).longValue();
        } catch (InvocationTargetException e) {
            Cases.wrong(shown(call) + " threw " + e.getCause());
            return Long.MIN_VALUE;
        } catch (IllegalAccessException e) {
            throw new IllegalStateException(e);
        }
    }

    private static String shown(Object[] call) {
        String given = Arrays.toString(Arrays.copyOfRange(call, 1, call.length));
        return call[0] + "(" + given.substring(1, given.length() - 1) + ")";
    }

    Run due(long want, Object... call) {
        long got = call(call);
        if (got != want) Cases.wrong("behind " + (made.size() - 1) + " calls " + shown(call) + " answered " + got + ", due is " + want);
        return this;
    }

    Run due(boolean want, Object... call) { return due(want ? 1 : 0, call); }

    /** A call that answers so and changes nothing: one that is refused, or one that asks. */
    Run idle(long want, Object... call) {
        for (int view = 0; view < VIEWS; view++) {
            Run without = again();
            Run with = again();
            with.call(call);
            List<Long> had = without.view(view);
            List<Long> has = with.view(view);
            if (!had.equals(has)) Cases.wrong(shown(call) + " changed what is seen: " + had + " is " + has);
        }
        return due(want, call);
    }

    Run idle(boolean want, Object... call) { return idle(want ? 1 : 0, call); }

    /** All that can be seen must be as it is behind the calls of another run. */
    Run dueAsIn(Run other) {
        for (int view = 0; view < VIEWS; view++) {
            List<Long> want = other.again().view(view);
            List<Long> got = again().view(view);
            if (!got.equals(want)) Cases.wrong("all is not as it should be: " + got + ", due is " + want);
        }
        return this;
    }

    private Run again() {
        Run run = new Run();
        for (Object[] call : made) run.call(call);
        return run;
    }

    /** A part of all that can be seen; some of it is seen by changing it. */
    private List<Long> view(int which) {
        List<Long> seen = new ArrayList<>();
        if (which == 0) seeNow(seen);
        else if (which == 1) seeRows(seen, "written", 4);
        else if (which == 2) seeRows(seen, "dent", 3);
        else if (which == 3) seeSteps(seen);
        else if (which == 4) {
            seen.add(call("back"));
            seeNow(seen);
        } else if (which == 5) seeLaws(seen);
        else seeTape(seen);
        return seen;
    }

    private void seeNow(List<Long> seen) {
        for (int what = 0; what <= 13; what++) seen.add(call("about", what));
        for (int what = 0; what <= 1; what++) seen.add(call("fault", what));
        for (String ask : new String[] {"fits", "next", "liars", "contrary"}) seen.add(call(ask));
        for (int e = 0; e < 9; e++) for (int what = 0; what <= 7; what++) seen.add(call("of", e, what));
    }

    private void seeRows(List<Long> seen, String rows, int width) {
        long many = call(rows, -1, 0);
        seen.add(many);
        for (int i = 0; i < many; i++) for (int what = 0; what < width; what++) seen.add(call(rows, i, what));
    }

    private void seeSteps(List<Long> seen) {
        for (long left = 0; left >= 0;) {
            left = call("undo");
            seen.add(left);
            for (int what : new int[] {1, 2, 3, 10, 12}) seen.add(call("about", what));
        }
    }

    private void seeLaws(List<Long> seen) {
        for (int text = -1; text <= 3; text++) {
            seen.add(call("by", text));
            for (int e = 0; e < 3; e++) for (int what = 5; what <= 7; what++) seen.add(call("of", e, what));
            for (int side = 0; side <= 1; side++) seen.add(call("acquitted", side, -1));
        }
    }

    private void seeTape(List<Long> seen) {
        seen.add(call("text"));
        for (int what = 0; what <= 1; what++) seen.add(call("fault", what));
        seen.add(call("flies", 40));
        for (int what = 9; what <= 13; what++) seen.add(call("about", what));
    }

    /** A text behind the tape, which then ends with it. */
    Run tape(String text) {
        int before = (int) call("about", 9);
        for (int at = 0; at < text.length(); at += 20) {
            int[] words = new int[5];
            for (int i = 0; i < 20; i++) words[i / 4] |= (at + i < text.length() ? text.charAt(at + i) : ' ') << (24 - 8 * (i % 4));
            due(before + at + 20, "feed", words[0], words[1], words[2], words[3], words[4]);
        }
        int length = before + text.length();
        return due(length, "end", length);
    }

    Run told(long want, String text) { return tape(text).due(want, "text"); }

    Run ruledBy(String text) {
        int number = (int) call("about", 4);
        return told(number, text).due(true, "by", number);
    }

    /** The next EATER, who sits down at a SIDE. */
    Run seated(int hunger, int stomachs, int price, int side) {
        int number = (int) call("about", 0);
        return due(number, "eater", hunger, stomachs, price).due(true, "sit", number, side);
    }

    /** The FAULT of a text on a new object, and its place (0 and NONE: it has none). */
    static void dueFault(int fault, int place, String text) {
        new Run().told(fault == 0 ? 0 : -1, text).due(fault, "fault", 0).due(place, "fault", 1);
    }

    /** What side 1 is judged by a law on a new object. */
    static void dueVerdict(boolean guilty, String either) {
        new Run().ruledBy("guilty " + either + ";").due(guilty, "judge", 1);
    }

    /** That two sums are alike, by each sign that tells it. */
    static void dueAlike(String sum, String other) {
        for (String sign : new String[] {"=", "<=", ">="}) dueVerdict(true, sum + sign + other);
        for (String sign : new String[] {"#", "<", ">"}) dueVerdict(false, sum + sign + other);
    }

    static String times(int n, String s) { return s.repeat(n); }
}
