import java.lang.reflect.InvocationTargetException;
import java.lang.reflect.Method;
import java.util.Arrays;
import java.util.HashMap;
import java.util.Map;

/**
 * Of every call every argument at its edges: the last that is allowed throws nothing, the first that is not throws what
 * the document says; of several wrong ones the exception told first; a call that throws changes nothing but status().
 */
public final class RefusalsTest {
    /** Ship 0 goes in by 4 to 20, ship 1 (out, by 5 to 15) is booked in setUp(), ship 2 has but one speed. */
    private static final String WORLD = "mean 500;wave 40 720 0;wave 10 60 5;bar 10 900 5 0 100;bar 20 900 5 30 90 lie;"
            + "ship 800 80 100 4 20;ship 820 70 50 5 15 out;ship 700 60 0 6 6;gap 16;surge -5;squat speed*3;";

    // What an argument is: its least, its most; then what a wrong one is refused by.
    private static final Map<Character, int[]> ALLOWED = new HashMap<>();
    private static final int MISSING = 0;
    private static final int NUMBER = 1;
    private static final int STATE = 2;
    private static final int MISSING_LATE = 3;
    private static final String[] THROWN = {"NoSuchElementException", "IllegalArgumentException",
        "IllegalStateException", "NoSuchElementException"};

    static {
        ALLOWED.put('s', new int[] {0, 2, MISSING});
        ALLOWED.put('b', new int[] {0, 1, MISSING});
        ALLOWED.put('w', new int[] {0, 1, MISSING});
        ALLOWED.put('m', new int[] {0, 10000, NUMBER});
        ALLOWED.put('v', new int[] {4, 25, NUMBER});
        ALLOWED.put('d', new int[] {100, 3000, NUMBER});
        ALLOWED.put('g', new int[] {100, 2500, NUMBER});
        ALLOWED.put('u', new int[] {-300, 300, NUMBER});
        ALLOWED.put('x', new int[] {1, 7, NUMBER});
        ALLOWED.put('n', new int[] {1, 2000, NUMBER});
        ALLOWED.put('N', new int[] {0, 2000, NUMBER});
        ALLOWED.put('t', new int[] {0, 20, NUMBER});
        ALLOWED.put('1', new int[] {0, 1, NUMBER});
        ALLOWED.put('2', new int[] {0, 2, NUMBER});
        ALLOWED.put('5', new int[] {0, 5, NUMBER});
        ALLOWED.put('7', new int[] {0, 7, NUMBER});
        ALLOWED.put('8', new int[] {0, 8, NUMBER});
        // In this world there is one window of each ship at each bar, and one of all; what is asked is its edge.
        ALLOWED.put('k', new int[] {0, 0, MISSING_LATE});
        ALLOWED.put('y', new int[] {Integer.MIN_VALUE, Integer.MAX_VALUE, NUMBER});
    }

    private static final String[][] CALLS = {
        {"text", "t"}, {"sound", "bd"}, {"load", "sg"}, {"surge", "u"}, {"told", "8"}, {"wave", "w2"}, {"bar", "b5"},
        {"ship", "s7"}, {"height", "m"}, {"peak", "mn1"}, {"water", "bm"}, {"above", "bymN"}, {"squat", "sbmv"},
        {"left", "sbmv"}, {"fastest", "sbm"}, {"window", "sbvmk1"}, {"joined", "svmk1"}, {"lasts", "sv"},
        {"least", "smv"}, {"deepest", "smv"}, {"soonest", "sm"}, {"convoy", "xvm"}, {"close", "smv"},
    };

    private final Check check = new Check("RefusalsTest");
    private final Map<String, Method> methods = new HashMap<>();

    public static void main(String[] args) throws Exception {
        RefusalsTest test = new RefusalsTest();
        for (Method method : TideGates.class.getMethods()) {
            test.methods.put(method.getName(), method);
        }
        for (String[] call : CALLS) {
            test.allowed(call[0], call[1]);
            test.refused(call[0], call[1]);
        }
        test.order();
        test.countOfWindows();
        test.book();
        test.bookedSpeeds();
        test.cancel();
        test.nothingThere();
        test.neverThrow();
        test.status();
        test.check.end();
    }

    /** Three acts, two of them to be seen; twenty bytes on the tape; a fault of an earlier text. */
    private static TideGates setUp() {
        TideGates x = new TideGates();
        Texts.tell(x, WORLD);
        x.book(1, 300, 10);
        x.sound(1, 910);
        x.surge(-7);
        Texts.tell(x, "mean 1001;");
        Texts.feed(x, "mean 7;gap 3;       ");
        return x;
    }

    private String outcome(TideGates x, String name, int... numbers) {
        Object[] arguments = Arrays.stream(numbers).boxed().toArray();
        try {
            return methods.get(name).invoke(x, arguments).toString();
        } catch (InvocationTargetException e) {
            return e.getCause().getClass().getSimpleName();
        } catch (IllegalAccessException e) {
            throw new IllegalStateException(e);
        }
    }

    /** What is refused must leave all as it was, but one count. */
    private void refuses(int due, String name, int... numbers) {
        TideGates x = setUp();
        TideGates twin = setUp();
        String before = Look.at(x);
        int[] counts = {x.status(0), x.status(1), x.status(2)};
        String call = name + Arrays.toString(numbers);
        String got = outcome(x, name, numbers);
        check.isTrue(call + " answered " + got + ", due is " + THROWN[due], got.equals(THROWN[due]));
        counts[due == MISSING_LATE ? MISSING : due]++;
        check.isTrue("status behind " + call + " is " + Look.refused(x) + ", due is " + Arrays.toString(counts),
                Look.refused(x).equals(counts[0] + " " + counts[1] + " " + counts[2]));
        check.isTrue("nothing changes by " + call, Look.at(x).equals(before));
        check.isTrue("nothing below changes by " + call, Look.throughAll(x).equals(Look.throughAll(twin)));
    }

    // ---- the last that is allowed

    private void allowed(String name, String kinds) {
        check.says("IllegalArgumentException: a number that is none such (so below).");
        for (int bits = 0; bits < 1 << kinds.length(); bits++) {
            int[] numbers = new int[kinds.length()];
            for (int i = 0; i < numbers.length; i++) {
                numbers[i] = ALLOWED.get(kinds.charAt(i))[bits >> i & 1];
            }
            TideGates x = setUp();
            String got = outcome(x, name, numbers);
            check.isTrue(name + Arrays.toString(numbers) + " answered " + got, !got.endsWith("Exception"));
            check.isTrue("nothing is refused by it", Look.refused(x).equals("0 0 0"));
        }
    }

    // ---- the first that is not, by itself and together with others

    private void refused(String name, String kinds) {
        check.says("Of several exceptions of one call the one told first is thrown; a call that throws changes"
                + " nothing but status().");
        for (int bits = 1; bits < 1 << kinds.length(); bits++) {
            for (int way = 0; way < 4; way++) {
                refusedBy(name, kinds, bits, way);
            }
        }
    }

    private void refusedBy(String name, String kinds, int bits, int way) {
        int[] numbers = new int[kinds.length()];
        int due = 9;
        for (int i = 0; i < numbers.length; i++) {
            int[] allowed = ALLOWED.get(kinds.charAt(i));
            boolean wrong = (bits >> i & 1) == 1;
            if (wrong && kinds.charAt(i) == 'y') {
                return;
            }
            numbers[i] = !wrong ? allowed[way & 1] : wrongOne(kinds.charAt(i), allowed, way);
            due = wrong ? Math.min(due, allowed[2]) : due;
        }
        refuses(due, name, numbers);
    }

    private static int wrongOne(char kind, int[] allowed, int way) {
        switch (way) {
            case 0:
                // k NONE is no wrong one.
                return kind == 'k' ? -2 : allowed[0] - 1;
            case 1:
                return allowed[1] + 1;
            case 2:
                return Integer.MIN_VALUE;
            default:
                return Integer.MAX_VALUE;
        }
    }

    // ---- calls whose arguments hang together

    private void order() {
        check.says("NoSuchElementException, behind the other: no such place.");
        for (int set = 1; set <= 7; set++) {
            int places = Integer.bitCount(set);
            for (int k = -1; k < places; k++) {
                String got = outcome(setUp(), "order", set, 6, 100, k);
                check.isTrue("order of " + set + ", " + k + " answered " + got, !got.endsWith("Exception"));
            }
            refuses(MISSING_LATE, "order", set, 6, 100, places);
            refuses(MISSING_LATE, "order", set, 6, 100, -2);
            refuses(MISSING_LATE, "order", set, 4, 0, Integer.MAX_VALUE);
            refuses(MISSING_LATE, "order", set, 25, 10000, Integer.MIN_VALUE);
        }
        for (int k : new int[] {-2, -1, 0, 3}) {
            for (int set : new int[] {0, 8, -1, 64, Integer.MIN_VALUE, Integer.MAX_VALUE}) {
                refuses(NUMBER, "order", set, 6, 100, k);
            }
            for (int speed : new int[] {3, 26, -10}) {
                refuses(NUMBER, "order", 7, speed, 100, k);
            }
            for (int m : new int[] {-1, 10001}) {
                refuses(NUMBER, "order", 7, 6, m, k);
            }
        }
        check.says("bits, 1 and more");
        for (int set : new int[] {0, 8, 9, 15, 16, -1, -8, 64, Integer.MIN_VALUE, Integer.MAX_VALUE}) {
            refuses(NUMBER, "convoy", set, 6, 100);
        }
    }

    private void countOfWindows() {
        check.says("k NONE: how many there are (what 0 only); k is looked at last.");
        check.isTrue("how many", outcome(setUp(), "window", 0, 0, 6, 100, -1, 0).equals("1"));
        check.isTrue("how many", outcome(setUp(), "joined", 0, 6, 100, -1, 0).equals("1"));
        for (int what : new int[] {1, -1, 2, Integer.MAX_VALUE, Integer.MIN_VALUE}) {
            refuses(NUMBER, "window", 0, 0, 6, 100, -1, what);
            refuses(NUMBER, "joined", 0, 6, 100, -1, what);
            refuses(MISSING, "window", 3, 0, 6, 100, -1, what);
            refuses(MISSING, "window", 0, 2, 6, 100, -1, what);
            refuses(MISSING, "joined", 3, 6, 100, -1, what);
        }
        // The windows that there are, and one more: what 1 is fine for them, and for one that is missing.
        for (int what = 0; what <= 1; what++) {
            refuses(MISSING_LATE, "window", 0, 0, 6, 100, 1, what);
            refuses(MISSING_LATE, "window", 0, 0, 6, 100, -2, what);
            refuses(MISSING_LATE, "joined", 0, 6, 100, 1, what);
            refuses(MISSING_LATE, "joined", 0, 6, 100, -2, what);
        }
    }

    private void book() {
        check.says("A SHIP is BOOKED from a START (0 to 2,000) on by a SPEED (its LEAST to its MOST)");
        String[] fine = {outcome(setUp(), "book", 0, 0, 4), outcome(setUp(), "book", 0, 2000, 20)};
        check.isTrue("at its edges " + Arrays.toString(fine),
                Arrays.equals(fine, new String[] {"61", "2013"}));
        for (int ship : new int[] {-1, 3, Integer.MIN_VALUE, Integer.MAX_VALUE}) {
            refuses(MISSING, "book", ship, 0, 10);
            refuses(MISSING, "book", ship, -1, 10);
            refuses(MISSING, "book", ship, 0, 3);
            refuses(MISSING, "book", ship, 2001, 26);
        }
        // Ship 1 is booked, and so may be refused by its state too: but the number is told first.
        for (int ship = 0; ship <= 1; ship++) {
            for (int start : new int[] {-1, 2001, 10000, Integer.MIN_VALUE, Integer.MAX_VALUE}) {
                refuses(NUMBER, "book", ship, start, 10);
                refuses(NUMBER, "book", ship, start, 3);
            }
            for (int speed : new int[] {3, 21 - 5 * ship, 26, 0, -1, Integer.MIN_VALUE, Integer.MAX_VALUE}) {
                refuses(NUMBER, "book", ship, 100, speed);
            }
        }
        check.says("IllegalStateException: it is BOOKED, the START is not GOOD, it is CLOSE to one that is BOOKED.");
        refuses(STATE, "book", 1, 300, 10);
        refuses(STATE, "book", 1, 1000, 10);
        refuses(STATE, "book", 1, 0, 5);
        refuses(STATE, "book", 0, 300, 10);
    }

    private void bookedSpeeds() {
        check.says("(SPEED need not be within LEAST, MOST there, nor where it is asked for one SHIP, but in book()"
                + " and SOONEST.)");
        // Ship 2 goes by 6 alone.
        for (int speed : new int[] {4, 5, 7, 25}) {
            refuses(NUMBER, "book", 2, 100, speed);
            TideGates x = setUp();
            check.answers("squat", () -> x.squat(2, 0, 0, speed), speed * 3);
            check.answers("lasts", () -> x.lasts(2, speed),
                    (60 + speed - 1) / speed + 2 * ((30 + speed - 1) / speed) + (120 + speed - 1) / speed);
            check.answers("left", () -> x.left(2, 0, 0, speed) - x.left(2, 0, 0, 6), 18 - 3 * speed);
            check.answers("window", () -> x.window(2, 0, speed, 0, -1, 0), 1);
            check.answers("joined", () -> x.joined(2, speed, 0, -1, 0), 1);
            check.answers("least", () -> x.least(2, 0, speed) > 0 ? 1 : 0, 1);
            check.answers("deepest", () -> x.deepest(2, 0, speed) > 700 ? 1 : 0, 1);
            check.answers("close", () -> x.close(2, 1000, speed), 0);
            check.answers("convoy", () -> x.convoy(4, speed, 9), 9);
            check.answers("order", () -> x.order(4, speed, 9, 0), 2);
        }
        check.isTrue("by 6", outcome(setUp(), "book", 2, 100, 6).equals("140"));
        check.answers("the same way by 6 alone", () -> setUp().soonest(2, 100), 140);
        check.answers("its own speed alone", () -> setUp().fastest(2, 0, 100), 6);
    }

    private void cancel() {
        check.says("IllegalStateException: it is not.");
        for (int ship : new int[] {-1, 3, 6, Integer.MIN_VALUE, Integer.MAX_VALUE}) {
            refuses(MISSING, "cancel", ship);
        }
        refuses(STATE, "cancel", 0);
        refuses(STATE, "cancel", 2);
        check.isTrue("the one that is booked", outcome(setUp(), "cancel", 1).equals("300"));
    }

    private void nothingThere() {
        check.says("At first: MEAN 0, no WAVES, BARS, SHIPS.");
        check.says("No BARS, no SHIPS.");
        for (String[] call : CALLS) {
            int[] numbers = new int[call[1].length()];
            int due = 9;
            for (int i = 0; i < numbers.length; i++) {
                char kind = call[1].charAt(i);
                numbers[i] = ALLOWED.get(kind)[0];
                due = Math.min(due, kind == 's' || kind == 'b' || kind == 'w' ? MISSING : kind == 'x' ? NUMBER : 9);
            }
            String got = outcome(new TideGates(), call[0], numbers);
            check.isTrue(call[0] + " of nothing answered " + got,
                    due == 9 ? !got.endsWith("Exception") : got.equals(THROWN[due]));
        }
        check.isTrue("book", outcome(new TideGates(), "book", 0, 0, 4).equals(THROWN[MISSING]));
        check.isTrue("cancel", outcome(new TideGates(), "cancel", 0).equals(THROWN[MISSING]));
        check.isTrue("order", outcome(new TideGates(), "order", 1, 4, 0, 0).equals(THROWN[NUMBER]));
        // Bars without ships, ships without bars.
        TideGates bars = Texts.gates("mean 5;bar 0 100 1 0 50;");
        TideGates ships = Texts.gates("mean 5;ship 100 40 0 4 4;");
        for (String name : new String[] {"squat", "left"}) {
            check.isTrue(name + " without ships", outcome(bars, name, 0, 0, 0, 4).equals(THROWN[MISSING]));
            check.isTrue(name + " without bars", outcome(ships, name, 0, 0, 0, 4).equals(THROWN[MISSING]));
        }
        check.isTrue("fastest", outcome(ships, "fastest", 0, 0, 0).equals(THROWN[MISSING]));
        check.isTrue("window", outcome(ships, "window", 0, 0, 4, 0, -1, 0).equals(THROWN[MISSING]));
        check.isTrue("water", outcome(ships, "water", 0, 0).equals(THROWN[MISSING]));
        check.isTrue("above", outcome(ships, "above", 0, 0, 0, 0).equals(THROWN[MISSING]));
        check.isTrue("sound", outcome(ships, "sound", 0, 500).equals(THROWN[MISSING]));
        check.isTrue("load", outcome(bars, "load", 0, 500).equals(THROWN[MISSING]));
        check.isTrue("lasts", outcome(ships, "lasts", 0, 4).equals("0"));
    }

    /** Calls that throw nothing, whatever comes. */
    private void neverThrow() {
        int[] wild = {Integer.MIN_VALUE, -1, 0, 1, Integer.MAX_VALUE};
        for (int n : wild) {
            TideGates x = setUp();
            check.isTrue("feed", outcome(x, "feed", n, n, n, n, n).equals("40"));
            check.isTrue("status", !outcome(x, "status", n).endsWith("Exception"));
            check.isTrue("nothing refused", Look.refused(x).equals("0 0 0"));
        }
        TideGates x = new TideGates();
        check.isTrue("undo of nothing", outcome(x, "undo").equals("-1"));
        check.isTrue("it is no refusal", Look.refused(x).equals("0 0 0"));
    }

    private void status() {
        check.says("How many calls were refused: 0 NoSuchElementException, 1 IllegalArgumentException, 2"
                + " IllegalStateException; NONE for others.");
        TideGates x = setUp();
        int[] others = {-1, 3, 4, Integer.MIN_VALUE, Integer.MAX_VALUE};
        for (int i = 1; i <= 5; i++) {
            for (int n = 0; n < i; n++) {
                outcome(x, "bar", 9, 9);
            }
            outcome(x, "bar", 0, 9);
            outcome(x, "cancel", 0);
            outcome(x, "cancel", 0);
            check.is("missing", x.status(0), i * (i + 1) / 2);
            check.is("numbers", x.status(1), i);
            check.is("states", x.status(2), 2 * i);
        }
        for (int what : others) {
            check.is("others", x.status(what), -1);
        }
        String counts = Look.refused(x);
        // Neither an act, nor one taken back, nor a new text sets them back.
        x.undo();
        x.surge(3);
        check.is("a fault", x.text(5), -9);
        Texts.tell(x, "mean 5;");
        x.undo();
        check.isTrue("counted on", Look.refused(x).equals(counts));
        check.is("a new object counts anew", new TideGates().status(0), 0);
    }
}
