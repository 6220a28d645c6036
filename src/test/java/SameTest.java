import java.lang.reflect.InvocationTargetException;
import java.lang.reflect.Method;
import java.util.ArrayList;
import java.util.Arrays;
import java.util.HashMap;
import java.util.List;
import java.util.Map;
import java.util.Random;

/** Runs of made-up calls: TideGates and Oracle answer the same, and throw the same. */
public final class SameTest {
    private static final Map<String, Method> GATES = new HashMap<>();
    private static final Map<String, Method> ORACLE = new HashMap<>();

    // Each call with what its arguments are: s ship, b bar, w wave, m minute, v speed, n count of minutes, k place,
    // 0-9 a "what" up to that, d depth, g draught, u surge, t booked start, x set, y water.
    private static final String[] OFTEN = {
        "sound bd", "load sg", "surge u", "book stv", "book stv", "book stv", "cancel s", "undo", "undo", "told 8",
        "wave w2", "bar b5", "ship s7", "height m", "peak mn1", "water bm", "above bymn", "squat sbmv", "left sbmv",
        "fastest sbm", "window sbvmk1", "joined svmk1", "lasts sv", "least smv", "deepest smv", "convoy xvm",
        "close smv", "close stv", "aground", "print", "status 3", "fault",
    };
    private static final String[] SELDOM = {"soonest sm", "soonest sm", "order xvmk", "order xvmk"};

    public static void main(String[] args) throws Exception {
        long seconds = args.length > 0 ? Long.parseLong(args[0]) : 0;
        long seed = args.length > 1 ? Long.parseLong(args[1]) : 1;
        gather(TideGates.class, GATES);
        gather(Oracle.class, ORACLE);
        Check check = new Check("SameTest");
        long until = System.nanoTime() + seconds * 1000000000L;
        int runs = 0;
        while (!check.failed() && (seconds == 0 ? runs < 300 : System.nanoTime() < until)) {
            run(check, seed + runs);
            runs++;
        }
        int texts = 0;
        while (!check.failed() && texts < (seconds == 0 ? 4000 : 400000)) {
            texts(check, seed + texts);
            texts++;
        }
        System.out.println("SameTest: " + runs + " runs of calls, " + texts + " runs of texts");
        check.end();
    }

    private static void gather(Class<?> type, Map<String, Method> into) {
        for (Method method : type.getDeclaredMethods()) {
            if (!java.lang.reflect.Modifier.isPrivate(method.getModifiers())) {
                method.setAccessible(true);
                into.put(method.getName(), method);
            }
        }
    }

    private static String outcome(Method method, Object on, int[] numbers) throws Exception {
        Object[] arguments = new Object[numbers.length];
        for (int i = 0; i < numbers.length; i++) {
            arguments[i] = numbers[i];
        }
        try {
            return method.invoke(on, arguments).toString();
        } catch (InvocationTargetException e) {
            return e.getCause().getClass().getName();
        }
    }

    private static final class Pair {
        final TideGates gates = new TideGates();
        final Oracle oracle = new Oracle();
        final List<String> told = new ArrayList<>();
        final Check check;
        final long seed;

        Pair(Check check, long seed) {
            this.check = check;
            this.seed = seed;
        }

        void call(String name, int... numbers) throws Exception {
            String due = outcome(ORACLE.get(name), oracle, numbers);
            String got = outcome(GATES.get(name), gates, numbers);
            String call = name + Arrays.toString(numbers);
            told.add(call + " = " + due);
            check.isTrue("seed " + seed + " " + call + " answered " + got + ", due is " + due + " behind "
                    + (got.equals(due) ? "" : told.subList(Math.max(0, told.size() - 60), told.size())),
                    got.equals(due));
        }

        void tell(String text) throws Exception {
            tell(text, text.length());
        }

        /** The first n bytes alone: what stands behind them must not matter. */
        void tell(String text, int n) throws Exception {
            for (int from = 0; from < text.length(); from += 20) {
                call("feed", Texts.feedOf(text, from));
            }
            told.add(text);
            call("text", n);
            call("fault");
        }
    }

    private static void run(Check check, long seed) throws Exception {
        Random random = new Random(seed);
        Pair pair = new Pair(check, seed);
        pair.tell(Texts.good(random));
        for (int i = 0; i < 250 && !check.failed(); i++) {
            int what = random.nextInt(100);
            if (what == 0 || pair.gates.told(2) == 0 && what < 30) {
                pair.tell(random.nextInt(3) == 0 ? Texts.bad(random) : Texts.good(random));
            } else if (what == 1) {
                pair.call("feed", random.nextInt(), random.nextInt(), random.nextInt(), 1, random.nextInt());
                pair.call("text", random.nextInt(30) - 5);
            } else {
                String[] calls = what < 5 ? SELDOM : OFTEN;
                String[] call = calls[random.nextInt(calls.length)].split(" ");
                String kinds = call.length > 1 ? call[1] : "";
                int[] numbers = new int[kinds.length()];
                for (int k = 0; k < numbers.length; k++) {
                    numbers[k] = argument(random, kinds.charAt(k), pair.gates);
                }
                if (call[0].equals("book") && random.nextInt(4) > 0) {
                    likelyBooking(random, pair.gates, numbers);
                } else if (call[0].equals("close") && random.nextInt(4) > 0) {
                    nearBooking(random, pair.gates, numbers);
                }
                pair.call(call[0], numbers);
            }
        }
        for (int what = 0; what < 9; what++) {
            pair.call("told", what);
        }
        pair.call("print");
        for (int i = 0; i < 10; i++) {
            pair.call("undo");
            pair.call("print");
            pair.call("height", 100);
        }
    }

    private static void likelyBooking(Random random, TideGates gates, int[] numbers) {
        if (gates.told(2) == 0) {
            return;
        }
        int ship = random.nextInt(gates.told(2));
        int slow = gates.ship(ship, 3);
        numbers[0] = ship;
        numbers[1] = random.nextInt(2001);
        numbers[2] = slow + random.nextInt(gates.ship(ship, 4) - slow + 1);
        TideGates asked = gates;
        if (asked.joined(ship, numbers[2], Math.min(560, numbers[1]), -1, 0) > 0) {
            numbers[1] = asked.joined(ship, numbers[2], Math.min(560, numbers[1]), 0, random.nextInt(2));
        }
    }

    /** A start from which on a ship may just come too close to one that is booked. */
    private static void nearBooking(Random random, TideGates gates, int[] numbers) {
        for (int other = 0; other < gates.told(2); other++) {
            if (gates.ship(other, 6) != -1) {
                numbers[1] = Math.max(0, gates.ship(other, 6) + random.nextInt(121) - 60);
            }
        }
    }

    private static final int[] WILD = {
        -1, -2, 0, 6, 7, 64, 2001, 10001, 99, 3001, 2501, 301, -301, 3, 26, Integer.MAX_VALUE, Integer.MIN_VALUE,
    };

    private static int argument(Random random, char kind, TideGates gates) {
        if (random.nextInt(60) == 0) {
            return WILD[random.nextInt(WILD.length)];
        }
        switch (kind) {
            case 's':
                return random.nextInt(gates.told(2) + (random.nextInt(9) == 0 ? 1 : 0) + (gates.told(2) == 0 ? 1 : 0));
            case 'b':
                return random.nextInt(gates.told(1) + (random.nextInt(9) == 0 ? 1 : 0) + (gates.told(1) == 0 ? 1 : 0));
            case 'w':
                return random.nextInt(7);
            case 'm':
                return random.nextInt(4) == 0 ? 10000 - random.nextInt(2) : random.nextInt(3000);
            case 't':
                return random.nextInt(2001);
            case 'v':
                return 4 + random.nextInt(22);
            case 'n':
                return random.nextInt(5) == 0 ? random.nextInt(3) : random.nextInt(2001);
            case 'k':
                return random.nextInt(4) - 1;
            case 'd':
                return random.nextInt(9) == 0 ? random.nextInt(3002) : 600 + random.nextInt(600);
            case 'g':
                return random.nextInt(9) == 0 ? random.nextInt(2502) : 400 + random.nextInt(800);
            case 'u':
                return random.nextInt(603) - 301;
            case 'x':
                return random.nextInt(3) == 0 ? (1 << gates.told(2)) - 1
                        : random.nextInt(1 << gates.told(2)) + (random.nextInt(9) == 0 ? 1 : 0);
            case 'y':
                return random.nextInt(2000);
            default:
                return random.nextInt(kind - '0' + (random.nextInt(9) == 0 ? 2 : 1));
        }
    }

    private static void texts(Check check, long seed) throws Exception {
        Random random = new Random(seed);
        Pair pair = new Pair(check, seed);
        for (int i = 0; i < 10 && !check.failed(); i++) {
            String text = random.nextInt(5) == 0 ? Texts.good(random) : Texts.bad(random);
            pair.tell(text, random.nextInt(5) == 0 ? random.nextInt(text.length() + 1) : text.length());
            for (int what = 0; what < 9; what++) {
                pair.call("told", what);
            }
            pair.call("print");
            pair.call("wave", random.nextInt(7), random.nextInt(3));
            pair.call("bar", random.nextInt(7), random.nextInt(6));
            pair.call("ship", random.nextInt(7), random.nextInt(8));
            for (int k = 0; k < 3; k++) {
                pair.call("squat", random.nextInt(3), random.nextInt(3), random.nextInt(1000), 4 + random.nextInt(22));
            }
        }
    }
}
