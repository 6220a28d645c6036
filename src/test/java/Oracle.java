import java.math.BigInteger;
import java.util.ArrayDeque;
import java.util.ArrayList;
import java.util.Deque;
import java.util.HashMap;
import java.util.HashSet;
import java.util.List;
import java.util.Map;
import java.util.NoSuchElementException;
import java.util.Set;
import java.util.TreeSet;

/**
 * The document, once more, word by word and without any thought of speed: tests ask it and TideGates the same.
 * It shares no code and as few ways of working as may be with TideGates.
 */
final class Oracle {
    /** One told thing: a wave, a bar or a ship, its numbers by the places that the document's methods ask by. */
    private static final class World {
        int mean;
        int gap = 15;
        int surge;
        Node squat;
        List<int[]> waves = new ArrayList<>();
        List<int[]> bars = new ArrayList<>();
        List<int[]> ships = new ArrayList<>();

        World copy() {
            World w = new World();
            w.mean = mean;
            w.gap = gap;
            w.surge = surge;
            w.squat = squat;
            waves.forEach(x -> w.waves.add(x.clone()));
            bars.forEach(x -> w.bars.add(x.clone()));
            ships.forEach(x -> w.ships.add(x.clone()));
            return w;
        }
    }

    private interface Node {
        BigInteger value(Map<String, Integer> names);
    }

    private static final class Flaw extends Exception {
        private static final long serialVersionUID = 1L;
        final int kind;
        final int place;

        Flaw(int kind, int place) {
            this.kind = kind;
            this.place = place;
        }
    }

    private record Token(char kind, String text, int place) { }

    private World world = new World();
    private final Deque<World> acts = new ArrayDeque<>();
    private final List<Integer> tape = new ArrayList<>();
    private int fault = -1;
    private final int[] refused = new int[3];

    // ---- refusals

    private NoSuchElementException missing() {
        refused[0]++;
        return new NoSuchElementException();
    }

    private IllegalArgumentException number() {
        refused[1]++;
        return new IllegalArgumentException();
    }

    private IllegalStateException state() {
        refused[2]++;
        return new IllegalStateException();
    }

    private void among(int n, List<int[]> things) {
        if (n < 0 || n > things.size() - 1) {
            throw missing();
        }
    }

    private void range(long n, long from, long to) {
        if (n < from || to < n) {
            throw number();
        }
    }

    private void act() {
        acts.addLast(world.copy());
        while (acts.size() > 8) {
            acts.removeFirst();
        }
    }

    // ---- the text

    int feed(int a, int b, int c, int d, int e) {
        if (tape.size() + 20 > 600) {
            return -1;
        }
        for (int n : new int[] {a, b, c, d, e}) {
            tape.add(n >> 24 & 255);
            tape.add(n >> 16 & 255);
            tape.add(n >> 8 & 255);
            tape.add(n & 255);
        }
        return tape.size();
    }

    int text(int n) {
        range(n, 0, tape.size());
        StringBuilder text = new StringBuilder();
        for (int i = 0; i < n; i++) {
            text.append((char) (int) tape.get(i));
        }
        tape.clear();
        try {
            World next = new Telling(text.toString()).world();
            act();
            world = next;
            fault = -1;
            return world.bars.size() + world.ships.size();
        } catch (Flaw flaw) {
            fault = flaw.place;
            return flaw.kind - 10;
        }
    }

    private static List<Token> tokens(String text) {
        List<Token> all = new ArrayList<>();
        int i = 0;
        while (i < text.length()) {
            char c = text.charAt(i);
            int from = i;
            if (c == ' ') {
                i++;
                continue;
            }
            if (c >= '0' && c <= '9') {
                while (i < text.length() && text.charAt(i) >= '0' && text.charAt(i) <= '9') {
                    i++;
                }
                all.add(new Token('0', text.substring(from, i), from));
            } else if (c >= 'a' && c <= 'z') {
                while (i < text.length() && text.charAt(i) >= 'a' && text.charAt(i) <= 'z') {
                    i++;
                }
                all.add(new Token('a', text.substring(from, i), from));
            } else {
                i++;
                all.add(new Token('.', text.substring(from, i), from));
            }
        }
        all.add(new Token('$', "", text.length()));
        return all;
    }

    private static final class Telling {
        private final List<Token> tokens;
        private int next;
        private final World w = new World();

        Telling(String text) {
            tokens = tokens(text);
        }

        private Token peek() {
            return tokens.get(next);
        }

        private boolean sees(String text) {
            return peek().kind != '$' && peek().text.equals(text);
        }

        private void want(String text) throws Flaw {
            if (!sees(text)) {
                throw new Flaw(1, peek().place);
            }
            next++;
        }

        private boolean may(String text) {
            if (sees(text)) {
                next++;
                return true;
            }
            return false;
        }

        private int n(int from, int to) throws Flaw {
            Token t = peek();
            if (t.kind != '0') {
                throw new Flaw(1, t.place);
            }
            BigInteger value = new BigInteger(t.text);
            if (value.compareTo(BigInteger.valueOf(from)) < 0 || value.compareTo(BigInteger.valueOf(to)) > 0) {
                throw new Flaw(2, t.place);
            }
            next++;
            return value.intValue();
        }

        World world() throws Flaw {
            want("mean");
            w.mean = n(0, 1000);
            want(";");
            Set<String> once = new HashSet<>();
            while (peek().kind != '$') {
                Token word = peek();
                switch (word.text) {
                    case "wave" -> {
                        next++;
                        seventh(w.waves, word);
                        w.waves.add(new int[] {n(0, 400), n(60, 2000), n(0, 2000)});
                    }
                    case "bar" -> {
                        next++;
                        seventh(w.bars, word);
                        w.bars.add(new int[] {n(0, 200), n(100, 3000), n(1, 20), n(0, 300), n(50, 150),
                            may("lie") ? 1 : 0});
                    }
                    case "ship" -> {
                        next++;
                        seventh(w.ships, word);
                        int[] s = {n(100, 2500), n(40, 95), n(0, 300), n(4, 25), 0, 0, -1, -1};
                        s[4] = n(s[3], 25);
                        s[5] = may("out") ? 1 : 0;
                        w.ships.add(s);
                    }
                    case "squat", "gap", "surge" -> {
                        if (!once.add(word.text)) {
                            throw new Flaw(1, word.place);
                        }
                        next++;
                        if (word.text.equals("squat")) {
                            w.squat = e(0);
                        } else if (word.text.equals("gap")) {
                            w.gap = n(0, 240);
                        } else {
                            w.surge = may("-") ? -n(0, 300) : n(0, 300);
                        }
                    }
                    default -> throw new Flaw(1, word.place);
                }
                want(";");
            }
            return w;
        }

        private static void seventh(List<int[]> things, Token word) throws Flaw {
            if (things.size() == 6) {
                throw new Flaw(3, word.place);
            }
        }

        private Node e(int within) throws Flaw {
            Node sum = t(within);
            while (sees("+") || sees("-")) {
                boolean plus = tokens.get(next++).text.equals("+");
                Node a = sum;
                Node b = t(within);
                sum = names -> held(plus ? a.value(names).add(b.value(names)) : a.value(names).subtract(b.value(names)));
            }
            return sum;
        }

        private Node t(int within) throws Flaw {
            Node product = u(within);
            while (sees("*") || sees("/")) {
                boolean times = tokens.get(next++).text.equals("*");
                Node a = product;
                Node b = u(within);
                product = names -> {
                    BigInteger x = a.value(names);
                    BigInteger y = b.value(names);
                    if (times) {
                        return held(x.multiply(y));
                    }
                    return y.signum() == 0 ? BigInteger.ZERO : x.divide(y);
                };
            }
            return product;
        }

        private Node u(int within) throws Flaw {
            Token t = peek();
            if (t.text.equals("(")) {
                if (within == 4) {
                    throw new Flaw(4, t.place);
                }
                next++;
                Node inner = e(within + 1);
                want(")");
                return inner;
            }
            if (Set.of("speed", "block", "draught", "water").contains(t.text)) {
                next++;
                return names -> BigInteger.valueOf(names.get(t.text));
            }
            BigInteger number = BigInteger.valueOf(n(0, 9999));
            return names -> number;
        }

        private static BigInteger held(BigInteger x) {
            BigInteger most = BigInteger.valueOf(1000000000);
            return x.min(most).max(most.negate());
        }
    }

    int fault() {
        return fault;
    }

    // ---- acts

    int sound(int bar, int n) {
        among(bar, world.bars);
        range(n, 100, 3000);
        act();
        int was = world.bars.get(bar)[1];
        world.bars.get(bar)[1] = n;
        return was;
    }

    int load(int ship, int n) {
        among(ship, world.ships);
        range(n, 100, 2500);
        act();
        int was = world.ships.get(ship)[0];
        world.ships.get(ship)[0] = n;
        return was;
    }

    int surge(int n) {
        range(n, -300, 300);
        act();
        int was = world.surge;
        world.surge = n;
        return was;
    }

    int book(int ship, int start, int speed) {
        among(ship, world.ships);
        int[] s = world.ships.get(ship);
        range(start, 0, 2000);
        range(speed, s[3], s[4]);
        if (s[6] != -1) {
            throw state();
        }
        if (!good(s, start, speed)) {
            throw state();
        }
        if (closeBits(ship, start, speed) != 0) {
            throw state();
        }
        act();
        s = world.ships.get(ship);
        s[6] = start;
        s[7] = speed;
        return start + duration(s, speed);
    }

    int cancel(int ship) {
        among(ship, world.ships);
        int was = world.ships.get(ship)[6];
        if (was == -1) {
            throw state();
        }
        act();
        world.ships.get(ship)[6] = -1;
        world.ships.get(ship)[7] = -1;
        return was;
    }

    int undo() {
        if (acts.isEmpty()) {
            return -1;
        }
        world = acts.removeLast();
        return acts.size();
    }

    // ---- what is told

    int told(int what) {
        range(what, 0, 8);
        int booked = 0;
        for (int i = 0; i < world.ships.size(); i++) {
            booked += world.ships.get(i)[6] == -1 ? 0 : 1 << i;
        }
        return List.of(world.waves.size(), world.bars.size(), world.ships.size(), world.mean, world.gap, world.surge,
                booked, tape.size(), acts.size()).get(what);
    }

    int wave(int wave, int what) {
        among(wave, world.waves);
        range(what, 0, 2);
        return world.waves.get(wave)[what];
    }

    int bar(int bar, int what) {
        among(bar, world.bars);
        range(what, 0, 5);
        return world.bars.get(bar)[what];
    }

    int ship(int ship, int what) {
        among(ship, world.ships);
        range(what, 0, 7);
        return world.ships.get(ship)[what];
    }

    // ---- the tide

    private int heightIn(int m) {
        long sum = world.mean + world.surge;
        for (int[] w : world.waves) {
            long into = m - w[2];
            while (into < 0) {
                into += w[1];
            }
            while (into >= w[1]) {
                into -= w[1];
            }
            long x = into * 3600 / w[1];
            long sign = 1;
            if (x >= 1800) {
                x -= 1800;
                sign = -1;
            }
            long part = sign * (4000 * x * (1800 - x) / (4050000 - x * (1800 - x)));
            sum += w[0] * part / 1000;
        }
        return (int) sum;
    }

    private int waterIn(int[] bar, int m) {
        return bar[1] + heightIn(m - bar[3]) * bar[4] / 100;
    }

    int height(int m) {
        range(m, 0, 10000);
        return heightIn(m);
    }

    int peak(int m, int n, int what) {
        range(m, 0, 10000);
        range(n, 1, 2000);
        range(what, 0, 1);
        int best = m;
        for (int i = m; i < m + n; i++) {
            int more = Integer.compare(heightIn(i), heightIn(best));
            if (what == 0 ? more > 0 : more < 0) {
                best = i;
            }
        }
        return best;
    }

    int water(int bar, int m) {
        among(bar, world.bars);
        range(m, 0, 10000);
        return waterIn(world.bars.get(bar), m);
    }

    int above(int bar, int water, int m, int n) {
        among(bar, world.bars);
        range(m, 0, 10000);
        range(n, 0, 2000);
        int count = 0;
        for (int i = m; i < m + n; i++) {
            count += waterIn(world.bars.get(bar), i) >= water ? 1 : 0;
        }
        return count;
    }

    // ---- ships on bars

    private int squatIn(int[] s, int water, int speed) {
        if (world.squat == null) {
            return s[1] * speed * speed / 100;
        }
        BigInteger value = world.squat.value(Map.of("speed", speed, "block", s[1], "draught", s[0], "water", water));
        return value.max(BigInteger.ZERO).min(BigInteger.valueOf(9999)).intValue();
    }

    private int leftIn(int[] s, int[] bar, int m, int speed) {
        int water = waterIn(bar, m);
        return water - s[0] - squatIn(s, water, speed);
    }

    int squat(int ship, int bar, int m, int speed) {
        among(ship, world.ships);
        among(bar, world.bars);
        range(m, 0, 10000);
        range(speed, 4, 25);
        return squatIn(world.ships.get(ship), waterIn(world.bars.get(bar), m), speed);
    }

    int left(int ship, int bar, int m, int speed) {
        among(ship, world.ships);
        among(bar, world.bars);
        range(m, 0, 10000);
        range(speed, 4, 25);
        return leftIn(world.ships.get(ship), world.bars.get(bar), m, speed);
    }

    int fastest(int ship, int bar, int m) {
        among(ship, world.ships);
        among(bar, world.bars);
        range(m, 0, 10000);
        int[] s = world.ships.get(ship);
        int best = -1;
        for (int speed = s[3]; speed <= s[4]; speed++) {
            if (leftIn(s, world.bars.get(bar), m, speed) >= s[2]) {
                best = speed;
            }
        }
        return best;
    }

    private static int time(int distance, int speed) {
        int minutes = 0;
        while (minutes * speed < 6 * distance) {
            minutes++;
        }
        return minutes;
    }

    private boolean canPass(int[] s, int[] bar, int from, int speed) {
        for (int m = from; m <= from + time(bar[2], speed); m++) {
            if (leftIn(s, bar, m, speed) < s[2]) {
                return false;
            }
        }
        return true;
    }

    /** The bars as a ship meets them, each with how far it then is: {bar, distance}. */
    private List<int[]> way(int[] s) {
        List<int[]> way = new ArrayList<>();
        int n = world.bars.size();
        if (s[5] == 0) {
            for (int i = 0; i < n; i++) {
                way.add(new int[] {i, world.bars.get(i)[0]});
            }
        } else {
            int far = 0;
            for (int i = n - 1; i >= 0; i--) {
                way.add(new int[] {i, far});
                far = world.bars.get(i)[0];
            }
        }
        return way;
    }

    /** Of each bar its first minute, by its number; behind them the end. */
    private int[] minutes(int[] s, int start, int speed) {
        int[] minutes = new int[world.bars.size() + 1];
        int m = start;
        for (int[] leg : way(s)) {
            m += time(leg[1], speed);
            minutes[leg[0]] = m;
            m += time(world.bars.get(leg[0])[2], speed);
        }
        minutes[world.bars.size()] = m;
        return minutes;
    }

    private int duration(int[] s, int speed) {
        return minutes(s, 0, speed)[world.bars.size()];
    }

    private boolean good(int[] s, int start, int speed) {
        int[] minutes = minutes(s, start, speed);
        for (int i = 0; i < world.bars.size(); i++) {
            if (!canPass(s, world.bars.get(i), minutes[i], speed)) {
                return false;
            }
        }
        return true;
    }

    private int answer(boolean[] can, int m, int k, int what) {
        List<int[]> windows = new ArrayList<>();
        for (int i = 0; i < 1440; i++) {
            if (can[i] && (i == 0 || !can[i - 1])) {
                windows.add(new int[] {m + i, m + i});
            } else if (can[i]) {
                windows.get(windows.size() - 1)[1] = m + i;
            }
        }
        if (k == -1) {
            return windows.size();
        }
        among(k, windows);
        return windows.get(k)[what];
    }

    private void edge(int k, int what) {
        range(what, 0, 1);
        if (k == -1 && what != 0) {
            throw number();
        }
    }

    int window(int ship, int bar, int speed, int m, int k, int what) {
        among(ship, world.ships);
        among(bar, world.bars);
        range(speed, 4, 25);
        range(m, 0, 10000);
        edge(k, what);
        boolean[] can = new boolean[1440];
        for (int i = 0; i < 1440; i++) {
            can[i] = canPass(world.ships.get(ship), world.bars.get(bar), m + i, speed);
        }
        return answer(can, m, k, what);
    }

    int joined(int ship, int speed, int m, int k, int what) {
        among(ship, world.ships);
        range(speed, 4, 25);
        range(m, 0, 10000);
        edge(k, what);
        boolean[] can = new boolean[1440];
        for (int i = 0; i < 1440; i++) {
            can[i] = good(world.ships.get(ship), m + i, speed);
        }
        return answer(can, m, k, what);
    }

    private int[] asked(int ship, int start, int speed) {
        among(ship, world.ships);
        range(start, 0, 10000);
        range(speed, 4, 25);
        return world.ships.get(ship);
    }

    int lasts(int ship, int speed) {
        return duration(asked(ship, 0, speed), speed);
    }

    int least(int ship, int start, int speed) {
        int[] s = asked(ship, start, speed);
        int[] minutes = minutes(s, start, speed);
        TreeSet<Integer> lefts = new TreeSet<>();
        for (int i = 0; i < world.bars.size(); i++) {
            int[] bar = world.bars.get(i);
            for (int m = minutes[i]; m <= minutes[i] + time(bar[2], speed); m++) {
                lefts.add(leftIn(s, bar, m, speed));
            }
        }
        return lefts.isEmpty() ? -1000000 : lefts.first();
    }

    int deepest(int ship, int start, int speed) {
        int[] s = asked(ship, start, speed).clone();
        for (s[0] = 2500; s[0] >= 100; s[0]--) {
            if (good(s, start, speed)) {
                return s[0];
            }
        }
        return -1;
    }

    int soonest(int ship, int start) {
        among(ship, world.ships);
        range(start, 0, 10000);
        int[] s = world.ships.get(ship);
        TreeSet<Integer> times = new TreeSet<>(Set.of(start));
        for (int[] leg : way(s)) {
            int[] bar = world.bars.get(leg[0]);
            TreeSet<Integer> behind = new TreeSet<>();
            for (int speed = s[3]; speed <= s[4]; speed++) {
                TreeSet<Integer> begins = new TreeSet<>();
                for (int t : times) {
                    int comes = t + time(leg[1], speed);
                    begins.add(comes);
                    for (int wait = 1; bar[5] == 1 && comes + wait <= start + 1000
                            && begins.add(comes + wait); wait++) {
                        continue;
                    }
                }
                for (int m : begins) {
                    int ends = m + time(bar[2], speed);
                    if (ends <= start + 1000 && canPass(s, bar, m, speed)) {
                        behind.add(ends);
                    }
                }
            }
            times = behind;
        }
        return times.isEmpty() ? -1 : times.first();
    }

    // ---- convoys

    private List<Integer> members(int set, int speed, int m) {
        if (set < 1 || set >= 1 << world.ships.size()) {
            throw number();
        }
        range(speed, 4, 25);
        range(m, 0, 10000);
        List<Integer> ships = new ArrayList<>();
        for (int i = 0; i < world.ships.size(); i++) {
            if ((set & 1 << i) != 0) {
                ships.add(i);
            }
        }
        return ships;
    }

    private final Map<Long, Boolean> goodKnown = new HashMap<>();

    private boolean allGood(List<Integer> order, int speed, int start) {
        for (int place = 0; place < order.size(); place++) {
            int from = start + place * world.gap;
            int ship = order.get(place);
            long key = from * 8L + ship;
            Boolean known = goodKnown.get(key);
            if (known == null) {
                known = good(world.ships.get(ship), from, speed);
                goodKnown.put(key, known);
            }
            if (!known) {
                return false;
            }
        }
        return true;
    }

    private int firstStart(List<Integer> order, int speed, int m) {
        for (int start = m; start < m + 1440; start++) {
            if (allGood(order, speed, start)) {
                return start;
            }
        }
        return -1;
    }

    int convoy(int set, int speed, int m) {
        List<Integer> ships = members(set, speed, m);
        goodKnown.clear();
        return firstStart(ships, speed, m);
    }

    private static void orders(List<Integer> rest, List<Integer> taken, List<List<Integer>> all) {
        if (rest.isEmpty()) {
            all.add(new ArrayList<>(taken));
        }
        for (int i = 0; i < rest.size(); i++) {
            Integer ship = rest.remove(i);
            taken.add(ship);
            orders(rest, taken, all);
            taken.remove(taken.size() - 1);
            rest.add(i, ship);
        }
    }

    int order(int set, int speed, int m, int k) {
        List<Integer> ships = members(set, speed, m);
        if (k < -1 || k >= ships.size()) {
            throw missing();
        }
        goodKnown.clear();
        List<List<Integer>> all = new ArrayList<>();
        orders(ships, new ArrayList<>(), all);
        int best = -1;
        List<Integer> bestOrder = null;
        for (List<Integer> order : all) {
            int start = firstStart(order, speed, m);
            if (start != -1 && (best == -1 || start < best)) {
                best = start;
                bestOrder = order;
            }
        }
        return best == -1 ? -1 : k == -1 ? best : bestOrder.get(k);
    }

    // ---- bookings

    private int closeBits(int ship, int start, int speed) {
        int bits = 0;
        int[] s = world.ships.get(ship);
        int[] mine = minutes(s, start, speed);
        for (int i = 0; i < world.ships.size(); i++) {
            int[] o = world.ships.get(i);
            if (i == ship || o[6] == -1) {
                continue;
            }
            int[] theirs = minutes(o, o[6], o[7]);
            for (int b = 0; b < world.bars.size(); b++) {
                int length = world.bars.get(b)[2];
                for (int x = mine[b]; x <= mine[b] + time(length, speed); x++) {
                    for (int y = theirs[b]; y <= theirs[b] + time(length, o[7]); y++) {
                        if (x == y || Math.abs(x - y) < world.gap) {
                            bits |= 1 << i;
                        }
                    }
                }
            }
        }
        return bits;
    }

    int close(int ship, int start, int speed) {
        asked(ship, start, speed);
        return closeBits(ship, start, speed);
    }

    int aground() {
        int bits = 0;
        for (int i = 0; i < world.ships.size(); i++) {
            int[] s = world.ships.get(i);
            if (s[6] != -1 && !good(s, s[6], s[7])) {
                bits += 1 << i;
            }
        }
        return bits;
    }

    long print() {
        long p = 0;
        for (int[] bar : world.bars) {
            p = 31 * p + bar[1];
        }
        for (int[] s : world.ships) {
            p = 31 * p + s[0];
            p = 31 * p + s[6];
            p = 31 * p + s[7];
        }
        return 31 * p + world.surge;
    }

    int status(int what) {
        return what < 0 || what > 2 ? -1 : refused[what];
    }
}
