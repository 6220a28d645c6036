import java.util.Arrays;
import java.util.NoSuchElementException;

/** Tide windows along a channel with bars: see README.md and the document's promises. */
public final class TideGates {
    public static final int NONE = -1;
    public static final int NO = -1000000;

    private static final int MANY = 6;
    private static final int TAPE_SIZE = 600;
    private static final int FEED_SIZE = 20;
    private static final int ACTS_KEPT = 8;
    private static final int DAY = 1440;
    private static final int LAST_MINUTE = 10000;
    private static final int LAST_BOOKED_START = 2000;
    private static final int LONGEST_ROW = 2000;
    private static final int SOONEST_SPAN = 1000;
    private static final int GAP_UNTOLD = 15;
    private static final int LARGEST_GAP = 240;
    private static final int LARGEST_SURGE = 300;
    private static final int LARGEST_DELAY = 300;
    private static final int SLOWEST = 4;
    private static final int QUICKEST = 25;

    private static final int AMPLITUDE = 0;
    private static final int PERIOD = 1;
    private static final int LAG = 2;
    private static final int WAVE_WIDTH = 3;

    private static final int FAR = 0;
    private static final int DEPTH = 1;
    private static final int LENGTH = 2;
    private static final int DELAY = 3;
    private static final int FACTOR = 4;
    private static final int LIE = 5;
    private static final int BAR_WIDTH = 6;
    private static final int LEAST_DEPTH = 100;
    private static final int MOST_DEPTH = 3000;

    private static final int DRAUGHT = 0;
    private static final int BLOCK = 1;
    private static final int KEEP = 2;
    private static final int LEAST = 3;
    private static final int MOST = 4;
    private static final int OUT = 5;
    private static final int START = 6;
    private static final int SPEED = 7;
    private static final int SHIP_WIDTH = 8;
    private static final int LEAST_DRAUGHT = 100;
    private static final int MOST_DRAUGHT = 2500;

    // Items of a formula below 0; an item from 0 on is a number that stands for itself.
    private static final int ITEM_SPEED = -1;
    private static final int ITEM_BLOCK = -2;
    private static final int ITEM_DRAUGHT = -3;
    private static final int ITEM_WATER = -4;
    private static final int ITEM_PLUS = -5;
    private static final int ITEM_MINUS = -6;
    private static final int ITEM_TIMES = -7;
    private static final int ITEM_BY = -8;

    private final Chart chart = new Chart();
    private final Past past = new Past();
    private final byte[] tape = new byte[TAPE_SIZE];
    private final Reader reader = new Reader(tape);
    private final Tide tide = new Tide(chart);
    private final Pilot pilot = new Pilot(chart, tide);
    private int tapeBytes;
    private int tellings;
    private int flawPlace = NONE;
    private int refusedMissing;
    private int refusedNumber;
    private int refusedState;

    public TideGates() {
    }

    public int feed(int a, int b, int c, int d, int e) {
        if (tapeBytes + FEED_SIZE > TAPE_SIZE) {
            return NONE;
        }
        putBytes(a);
        putBytes(b);
        putBytes(c);
        putBytes(d);
        putBytes(e);
        return tapeBytes;
    }

    public int text(int n) throws IllegalArgumentException {
        needWithin(n, 0, tapeBytes);
        tapeBytes = 0;
        int flaw = reader.read(n);
        if (flaw != 0) {
            flawPlace = reader.flawPlace;
            return flaw - 10;
        }
        flawPlace = NONE;
        past.keep(chart);
        tellings++;
        chart.copyFrom(reader.draft);
        chart.telling = tellings;
        return chart.bars + chart.ships;
    }

    public int fault() {
        return flawPlace;
    }

    public int sound(int bar, int n) throws NoSuchElementException, IllegalArgumentException {
        needBar(bar);
        needWithin(n, LEAST_DEPTH, MOST_DEPTH);
        past.keep(chart);
        int before = chart.barOf(bar, DEPTH);
        chart.barRow[bar * BAR_WIDTH + DEPTH] = n;
        return before;
    }

    public int load(int ship, int n) throws NoSuchElementException, IllegalArgumentException {
        needShip(ship);
        needWithin(n, LEAST_DRAUGHT, MOST_DRAUGHT);
        past.keep(chart);
        int before = chart.shipOf(ship, DRAUGHT);
        chart.shipRow[ship * SHIP_WIDTH + DRAUGHT] = n;
        return before;
    }

    public int surge(int n) throws IllegalArgumentException {
        needWithin(n, -LARGEST_SURGE, LARGEST_SURGE);
        past.keep(chart);
        int before = chart.surge;
        chart.surge = n;
        return before;
    }

    public int book(int ship, int start, int speed)
            throws NoSuchElementException, IllegalArgumentException, IllegalStateException {
        needShip(ship);
        needWithin(start, 0, LAST_BOOKED_START);
        needWithin(speed, chart.shipOf(ship, LEAST), chart.shipOf(ship, MOST));
        if (chart.isBooked(ship) || !pilot.isGood(ship, start, speed) || closeTo(ship, start, speed) != 0) {
            refuseState();
        }
        past.keep(chart);
        chart.putBooking(ship, start, speed);
        return start + chart.passageTime(ship, speed);
    }

    public int cancel(int ship) throws NoSuchElementException, IllegalStateException {
        needShip(ship);
        if (!chart.isBooked(ship)) {
            refuseState();
        }
        past.keep(chart);
        int before = chart.shipOf(ship, START);
        chart.putBooking(ship, NONE, NONE);
        return before;
    }

    public int undo() {
        return past.giveBack(chart) ? past.count : NONE;
    }

    public int told(int what) throws IllegalArgumentException {
        needWithin(what, 0, 8);
        switch (what) {
            case 0:
                return chart.waves;
            case 1:
                return chart.bars;
            case 2:
                return chart.ships;
            case 3:
                return chart.mean;
            case 4:
                return chart.gap;
            case 5:
                return chart.surge;
            case 6:
                return bookedShips();
            case 7:
                return tapeBytes;
            default:
                return past.count;
        }
    }

    public int wave(int wave, int what) throws NoSuchElementException, IllegalArgumentException {
        if (wave < 0 || wave >= chart.waves) {
            refuseMissing();
        }
        needWithin(what, 0, WAVE_WIDTH - 1);
        return chart.waveOf(wave, what);
    }

    public int bar(int bar, int what) throws NoSuchElementException, IllegalArgumentException {
        needBar(bar);
        needWithin(what, 0, BAR_WIDTH - 1);
        return chart.barOf(bar, what);
    }

    public int ship(int ship, int what) throws NoSuchElementException, IllegalArgumentException {
        needShip(ship);
        needWithin(what, 0, SHIP_WIDTH - 1);
        return chart.shipOf(ship, what);
    }

    public int height(int m) throws IllegalArgumentException {
        needMinute(m);
        return tide.heightAt(m);
    }

    public int peak(int m, int n, int what) throws IllegalArgumentException {
        needMinute(m);
        needWithin(n, 1, LONGEST_ROW);
        needWithin(what, 0, 1);
        int sign = what == 0 ? 1 : -1;
        int best = m;
        int bestHeight = sign * tide.heightAt(m);
        for (int i = 1; i < n; i++) {
            int signedHeight = sign * tide.heightAt(m + i);
            if (signedHeight > bestHeight) {
                best = m + i;
                bestHeight = signedHeight;
            }
        }
        return best;
    }

    public int water(int bar, int m) throws NoSuchElementException, IllegalArgumentException {
        needBar(bar);
        needMinute(m);
        return tide.waterAt(bar, m);
    }

    public int above(int bar, int water, int m, int n) throws NoSuchElementException, IllegalArgumentException {
        needBar(bar);
        needMinute(m);
        needWithin(n, 0, LONGEST_ROW);
        int count = 0;
        for (int i = 0; i < n; i++) {
            if (tide.waterAt(bar, m + i) >= water) {
                count++;
            }
        }
        return count;
    }

    public int squat(int ship, int bar, int m, int speed) throws NoSuchElementException, IllegalArgumentException {
        needShipAtBar(ship, bar, m, speed);
        return pilot.sinks(ship, speed, chart.shipOf(ship, DRAUGHT), tide.waterAt(bar, m));
    }

    public int left(int ship, int bar, int m, int speed) throws NoSuchElementException, IllegalArgumentException {
        needShipAtBar(ship, bar, m, speed);
        return pilot.belowKeel(ship, speed, chart.shipOf(ship, DRAUGHT), tide.waterAt(bar, m));
    }

    public int fastest(int ship, int bar, int m) throws NoSuchElementException, IllegalArgumentException {
        needShip(ship);
        needBar(bar);
        needMinute(m);
        int draught = chart.shipOf(ship, DRAUGHT);
        int depthNow = tide.waterAt(bar, m);
        for (int speed = chart.shipOf(ship, MOST); speed >= chart.shipOf(ship, LEAST); speed--) {
            if (pilot.isClear(ship, speed, draught, depthNow)) {
                return speed;
            }
        }
        return NONE;
    }

    public int window(int ship, int bar, int speed, int m, int k, int what)
            throws NoSuchElementException, IllegalArgumentException {
        needShipAtBar(ship, bar, m, speed);
        needEdge(k, what);
        pilot.findPassable(ship, bar, speed, m);
        return windowAnswer(m, k, what);
    }

    public int joined(int ship, int speed, int m, int k, int what)
            throws NoSuchElementException, IllegalArgumentException {
        needPassage(ship, m, speed);
        needEdge(k, what);
        pilot.findGood(1 << ship, speed, m);
        return windowAnswer(m, k, what);
    }

    public int lasts(int ship, int speed) throws NoSuchElementException, IllegalArgumentException {
        needShip(ship);
        needSpeed(speed);
        return chart.passageTime(ship, speed);
    }

    public int least(int ship, int start, int speed) throws NoSuchElementException, IllegalArgumentException {
        needPassage(ship, start, speed);
        return pilot.leastBelowKeel(ship, start, speed);
    }

    public int deepest(int ship, int start, int speed) throws NoSuchElementException, IllegalArgumentException {
        needPassage(ship, start, speed);
        return pilot.deepestDraught(ship, start, speed);
    }

    public int soonest(int ship, int start) throws NoSuchElementException, IllegalArgumentException {
        needShip(ship);
        needMinute(start);
        return pilot.soonestEnd(ship, start);
    }

    public int convoy(int set, int speed, int m) throws IllegalArgumentException {
        needConvoy(set, speed, m);
        pilot.findGood(set, speed, m);
        int later = pilot.convoyStart(set);
        return later == NONE ? NONE : m + later;
    }

    public int order(int set, int speed, int m, int k) throws IllegalArgumentException, NoSuchElementException {
        needConvoy(set, speed, m);
        if (k < NONE || k >= Integer.bitCount(set)) {
            refuseMissing();
        }
        pilot.findGood(set, speed, m);
        int later = pilot.bestOrderStart(set);
        if (later == NONE) {
            return NONE;
        }
        return k == NONE ? m + later : pilot.lineUp[k];
    }

    public int close(int ship, int start, int speed) throws NoSuchElementException, IllegalArgumentException {
        needPassage(ship, start, speed);
        return closeTo(ship, start, speed);
    }

    public int aground() {
        int set = 0;
        for (int ship = 0; ship < chart.ships; ship++) {
            if (chart.isBooked(ship)
                    && !pilot.isGood(ship, chart.shipOf(ship, START), chart.shipOf(ship, SPEED))) {
                set |= 1 << ship;
            }
        }
        return set;
    }

    public long print() {
        long sum = 0;
        for (int bar = 0; bar < chart.bars; bar++) {
            sum = sum * 31 + chart.barOf(bar, DEPTH);
        }
        for (int ship = 0; ship < chart.ships; ship++) {
            sum = sum * 31 + chart.shipOf(ship, DRAUGHT);
            sum = sum * 31 + chart.shipOf(ship, START);
            sum = sum * 31 + chart.shipOf(ship, SPEED);
        }
        return sum * 31 + chart.surge;
    }

    public int status(int what) {
        switch (what) {
            case 0:
                return refusedMissing;
            case 1:
                return refusedNumber;
            case 2:
                return refusedState;
            default:
                return NONE;
        }
    }

    private void putBytes(int number) {
        for (int shift = 24; shift >= 0; shift -= 8) {
            tape[tapeBytes] = (byte) (number >>> shift);
            tapeBytes++;
        }
    }

    private int bookedShips() {
        int set = 0;
        for (int ship = 0; ship < chart.ships; ship++) {
            if (chart.isBooked(ship)) {
                set |= 1 << ship;
            }
        }
        return set;
    }

    private int closeTo(int ship, int start, int speed) {
        int set = 0;
        for (int other = 0; other < chart.ships; other++) {
            if (other != ship && chart.isBooked(other) && chart.meets(ship, start, speed, other)) {
                set |= 1 << other;
            }
        }
        return set;
    }

    private int windowAnswer(int m, int k, int what) {
        int place = pilot.windowPlace(k, what);
        if (place == NO) {
            refuseMissing();
        }
        return k == NONE ? place : m + place;
    }

    private void needShipAtBar(int ship, int bar, int m, int speed) {
        needShip(ship);
        needBar(bar);
        needMinute(m);
        needSpeed(speed);
    }

    private void needPassage(int ship, int start, int speed) {
        needShip(ship);
        needMinute(start);
        needSpeed(speed);
    }

    private void needConvoy(int set, int speed, int m) {
        needWithin(set, 1, (1 << chart.ships) - 1);
        needSpeed(speed);
        needMinute(m);
    }

    private void needEdge(int k, int what) {
        needWithin(what, 0, k == NONE ? 0 : 1);
    }

    private void needBar(int bar) {
        if (bar < 0 || bar >= chart.bars) {
            refuseMissing();
        }
    }

    private void needShip(int ship) {
        if (ship < 0 || ship >= chart.ships) {
            refuseMissing();
        }
    }

    private void needMinute(int m) {
        needWithin(m, 0, LAST_MINUTE);
    }

    private void needSpeed(int speed) {
        needWithin(speed, SLOWEST, QUICKEST);
    }

    private void needWithin(int number, int from, int to) {
        if (number < from || number > to) {
            refuseNumber();
        }
    }

    private void refuseMissing() {
        refusedMissing++;
        throw new NoSuchElementException("no such wave, bar, ship, window or place");
    }

    private void refuseNumber() {
        refusedNumber++;
        throw new IllegalArgumentException("a number that is none such");
    }

    private void refuseState() {
        refusedState++;
        throw new IllegalStateException("not as things are booked, or not by this water");
    }

    /** All that undo() brings back. */
    private static final class Chart {
        private static final int[] NO_FORMULA = {};

        int mean;
        int gap = GAP_UNTOLD;
        int surge;
        int waves;
        int bars;
        int ships;
        final int[] waveRow = new int[MANY * WAVE_WIDTH];
        final int[] barRow = new int[MANY * BAR_WIDTH];
        final int[] shipRow = new int[MANY * SHIP_WIDTH];
        // Items behind their operands; never changed once made, so that charts share it.
        int[] formula = NO_FORMULA;
        boolean formulaHasWater;
        // Which text() told this: two charts with one number have the same waves.
        int telling;

        void clear() {
            mean = 0;
            gap = GAP_UNTOLD;
            surge = 0;
            waves = 0;
            bars = 0;
            ships = 0;
            formula = NO_FORMULA;
            formulaHasWater = false;
        }

        void copyFrom(Chart other) {
            mean = other.mean;
            gap = other.gap;
            surge = other.surge;
            waves = other.waves;
            bars = other.bars;
            ships = other.ships;
            System.arraycopy(other.waveRow, 0, waveRow, 0, waveRow.length);
            System.arraycopy(other.barRow, 0, barRow, 0, barRow.length);
            System.arraycopy(other.shipRow, 0, shipRow, 0, shipRow.length);
            formula = other.formula;
            formulaHasWater = other.formulaHasWater;
            telling = other.telling;
        }

        int waveOf(int wave, int what) {
            return waveRow[wave * WAVE_WIDTH + what];
        }

        int barOf(int bar, int what) {
            return barRow[bar * BAR_WIDTH + what];
        }

        int shipOf(int ship, int what) {
            return shipRow[ship * SHIP_WIDTH + what];
        }

        boolean isBooked(int ship) {
            return shipOf(ship, START) != NONE;
        }

        void putBooking(int ship, int start, int speed) {
            shipRow[ship * SHIP_WIDTH + START] = start;
            shipRow[ship * SHIP_WIDTH + SPEED] = speed;
        }

        int farTime(int bar, int speed) {
            return timeFor(barOf(bar, FAR), speed);
        }

        int lengthTime(int bar, int speed) {
            return timeFor(barOf(bar, LENGTH), speed);
        }

        /** How long behind its start a ship comes to a bar. */
        int comesAfter(int ship, int speed, int bar) {
            int time = 0;
            if (shipOf(ship, OUT) == 1) {
                for (int passed = bars - 1; passed > bar; passed--) {
                    time += lengthTime(passed, speed) + farTime(passed, speed);
                }
                return time;
            }
            for (int passed = 0; passed < bar; passed++) {
                time += farTime(passed, speed) + lengthTime(passed, speed);
            }
            return time + farTime(bar, speed);
        }

        int passageTime(int ship, int speed) {
            if (bars == 0) {
                return 0;
            }
            int lastPassed = shipOf(ship, OUT) == 1 ? 0 : bars - 1;
            return comesAfter(ship, speed, lastPassed) + lengthTime(lastPassed, speed);
        }

        /** Whether a ship from a start on would come too close to one that is booked. */
        boolean meets(int ship, int start, int speed, int other) {
            int otherSpeed = shipOf(other, SPEED);
            for (int bar = 0; bar < bars; bar++) {
                int from = start + comesAfter(ship, speed, bar);
                int to = from + lengthTime(bar, speed);
                int otherFrom = shipOf(other, START) + comesAfter(other, otherSpeed, bar);
                int otherTo = otherFrom + lengthTime(bar, otherSpeed);
                int apart = Math.max(0, Math.max(otherFrom - to, from - otherTo));
                if (apart == 0 || apart < gap) {
                    return true;
                }
            }
            return false;
        }

        private static int timeFor(int distance, int speed) {
            return speed < 1 ? 0 : (6 * distance + speed - 1) / speed;
        }
    }

    /** The charts as they were ahead of the latest acts. */
    private static final class Past {
        private final Chart[] charts = new Chart[ACTS_KEPT];
        private int next;
        int count;

        Past() {
            for (int i = 0; i < ACTS_KEPT; i++) {
                charts[i] = new Chart();
            }
        }

        void keep(Chart chart) {
            charts[next].copyFrom(chart);
            next = (next + 1) % ACTS_KEPT;
            count = Math.min(count + 1, ACTS_KEPT);
        }

        boolean giveBack(Chart chart) {
            if (count == 0) {
                return false;
            }
            count--;
            next = (next + ACTS_KEPT - 1) % ACTS_KEPT;
            chart.copyFrom(charts[next]);
            return true;
        }
    }

    /** Reads a text from left to right, so that the first flaw found is the one with the least place. */
    private static final class Reader {
        private static final int CANT_STAND = 1;
        private static final int NONE_SUCH = 2;
        private static final int SEVENTH = 3;
        private static final int TOO_DEEP = 4;
        private static final int DEEPEST = 4;
        private static final int TOO_LARGE = 1000000;
        // The least and the most of each number, in the order in which a text tells them.
        private static final int[] WAVE_LIMITS = {0, 400, 60, 2000, 0, 2000};
        private static final int[] BAR_LIMITS = {0, 200, LEAST_DEPTH, MOST_DEPTH, 1, 20, 0, LARGEST_DELAY, 50, 150};
        private static final int[] SHIP_LIMITS = {LEAST_DRAUGHT, MOST_DRAUGHT, 40, 95, 0, 300, SLOWEST, QUICKEST};

        private final byte[] tape;
        private final int[] items = new int[TAPE_SIZE];
        private int itemCount;
        private int at;
        private int end;
        private int flaw;
        private boolean gapTold;
        private boolean surgeTold;
        final Chart draft = new Chart();
        int flawPlace;

        Reader(byte[] tape) {
            this.tape = tape;
        }

        /** The flaw of the first bytes of the tape, or 0: then the draft holds what they tell. */
        int read(int bytes) {
            at = 0;
            end = Math.min(bytes, tape.length);
            flaw = 0;
            itemCount = 0;
            gapTold = false;
            surgeTold = false;
            draft.clear();
            readMean();
            for (int i = 0; i < TAPE_SIZE && flaw == 0 && peekSign() != NONE; i++) {
                readStatement();
            }
            if (flaw == 0 && itemCount > 0) {
                draft.formula = Arrays.copyOf(items, itemCount);
            }
            return flaw;
        }

        private void readMean() {
            if (!takesWord("mean")) {
                note(CANT_STAND, at);
            }
            draft.mean = readNumber(0, 1000);
            needSign(';');
        }

        private void readStatement() {
            skipBlanks();
            int word = at;
            if (takesWord("wave")) {
                readWave(word);
            } else if (takesWord("bar")) {
                readBar(word);
            } else if (takesWord("ship")) {
                readShip(word);
            } else if (itemCount == 0 && takesWord("squat")) {
                readSum(0);
            } else if (!gapTold && takesWord("gap")) {
                gapTold = true;
                draft.gap = readNumber(0, LARGEST_GAP);
            } else if (!surgeTold && takesWord("surge")) {
                surgeTold = true;
                readSurge();
            } else {
                note(CANT_STAND, word);
            }
            needSign(';');
        }

        private void readWave(int word) {
            if (draft.waves >= MANY) {
                note(SEVENTH, word);
                return;
            }
            readNumbers(draft.waveRow, draft.waves * WAVE_WIDTH, WAVE_LIMITS);
            draft.waves++;
        }

        private void readBar(int word) {
            if (draft.bars >= MANY) {
                note(SEVENTH, word);
                return;
            }
            int from = draft.bars * BAR_WIDTH;
            readNumbers(draft.barRow, from, BAR_LIMITS);
            draft.barRow[from + LIE] = takesWord("lie") ? 1 : 0;
            draft.bars++;
        }

        private void readShip(int word) {
            if (draft.ships >= MANY) {
                note(SEVENTH, word);
                return;
            }
            int from = draft.ships * SHIP_WIDTH;
            readNumbers(draft.shipRow, from, SHIP_LIMITS);
            draft.shipRow[from + MOST] = readNumber(draft.shipRow[from + LEAST], QUICKEST);
            draft.shipRow[from + OUT] = takesWord("out") ? 1 : 0;
            draft.putBooking(draft.ships, NONE, NONE);
            draft.ships++;
        }

        private void readSurge() {
            boolean below = takesSign('-');
            int number = readNumber(0, LARGEST_SURGE);
            draft.surge = below ? -number : number;
        }

        private void readNumbers(int[] row, int from, int[] limits) {
            for (int i = 0; 2 * i + 1 < limits.length && from + i < row.length; i++) {
                row[from + i] = readNumber(limits[2 * i], limits[2 * i + 1]);
            }
        }

        private void readSum(int depth) {
            readProduct(depth);
            for (int i = 0; i < TAPE_SIZE && flaw == 0; i++) {
                boolean plus = takesSign('+');
                if (!plus && !takesSign('-')) {
                    return;
                }
                readProduct(depth);
                putItem(plus ? ITEM_PLUS : ITEM_MINUS);
            }
        }

        private void readProduct(int depth) {
            readUnit(depth);
            for (int i = 0; i < TAPE_SIZE && flaw == 0; i++) {
                boolean times = takesSign('*');
                if (!times && !takesSign('/')) {
                    return;
                }
                readUnit(depth);
                putItem(times ? ITEM_TIMES : ITEM_BY);
            }
        }

        private void readUnit(int depth) {
            int sign = peekSign();
            if (sign == '(' && depth >= DEEPEST) {
                note(TOO_DEEP, at);
            } else if (sign == '(') {
                at++;
                readSum(depth + 1);
                if (!takesSign(')')) {
                    note(CANT_STAND, at);
                }
            } else if (takesWord("speed")) {
                putItem(ITEM_SPEED);
            } else if (takesWord("block")) {
                putItem(ITEM_BLOCK);
            } else if (takesWord("draught")) {
                putItem(ITEM_DRAUGHT);
            } else if (takesWord("water")) {
                draft.formulaHasWater = true;
                putItem(ITEM_WATER);
            } else {
                putItem(readNumber(0, 9999));
            }
        }

        private void putItem(int item) {
            if (itemCount < items.length) {
                items[itemCount] = item;
                itemCount++;
            }
        }

        private int readNumber(int from, int to) {
            skipBlanks();
            int first = at;
            int number = 0;
            for (; at < end && isDigit(tape[at]); at++) {
                // Held low, so that ever so many digits cannot wrap round into the limits.
                number = Math.min(number * 10 + tape[at] - '0', TOO_LARGE);
            }
            if (at == first) {
                note(CANT_STAND, first);
            } else if (number < from || number > to) {
                note(NONE_SUCH, first);
            }
            return number;
        }

        private boolean takesWord(String word) {
            skipBlanks();
            int behind = at + word.length();
            if (flaw != 0 || behind > end || behind < end && isLetter(tape[behind])) {
                return false;
            }
            for (int i = 0; i < word.length(); i++) {
                if (tape[at + i] != word.charAt(i)) {
                    return false;
                }
            }
            at = behind;
            return true;
        }

        private void needSign(int sign) {
            if (!takesSign(sign)) {
                note(CANT_STAND, at);
            }
        }

        private boolean takesSign(int sign) {
            skipBlanks();
            if (flaw != 0 || at >= end || tape[at] != sign) {
                return false;
            }
            at++;
            return true;
        }

        private int peekSign() {
            skipBlanks();
            return at < end ? tape[at] & 255 : NONE;
        }

        private void skipBlanks() {
            while (at < end && tape[at] == ' ') {
                at++;
            }
        }

        private void note(int kind, int place) {
            if (flaw == 0) {
                flaw = kind;
                flawPlace = place;
            }
        }

        private static boolean isDigit(int sign) {
            return sign >= '0' && sign <= '9';
        }

        private static boolean isLetter(int sign) {
            return sign >= 'a' && sign <= 'z';
        }
    }

    /** Heights of the tide, and the water above bars. */
    private static final class Tide {
        // From the largest delay ahead of minute 0 to behind the latest passage of a convoy.
        private static final int MINUTES_KEPT = 15000;
        // Added to what is kept, so that 0 is left to say that nothing is.
        private static final int KEPT_MARK = 100000;

        private final Chart chart;
        private final int[] kept = new int[MINUTES_KEPT];
        private int keptTelling;

        Tide(Chart chart) {
            this.chart = chart;
        }

        int waterAt(int bar, int minute) {
            int heightThere = heightAt(minute - chart.barOf(bar, DELAY));
            return chart.barOf(bar, DEPTH) + heightThere * chart.barOf(bar, FACTOR) / 100;
        }

        int heightAt(int minute) {
            int still = chart.mean + chart.surge;
            if (keptTelling != chart.telling) {
                Arrays.fill(kept, 0);
                keptTelling = chart.telling;
            }
            int place = minute + LARGEST_DELAY;
            if (place < 0 || place >= kept.length) {
                return still + sumOfWaves(minute);
            }
            if (kept[place] == 0) {
                kept[place] = sumOfWaves(minute) + KEPT_MARK;
            }
            return still + kept[place] - KEPT_MARK;
        }

        private int sumOfWaves(int minute) {
            int sum = 0;
            for (int wave = 0; wave < chart.waves; wave++) {
                int period = Math.max(1, chart.waveOf(wave, PERIOD));
                int into = Math.floorMod(minute - chart.waveOf(wave, LAG), period);
                sum += chart.waveOf(wave, AMPLITUDE) * partOf(into * 3600 / period) / 1000;
            }
            return sum;
        }

        private static int partOf(int turn) {
            int half = turn < 1800 ? turn : turn - 1800;
            int bow = half * (1800 - half);
            int part = (int) (4000L * bow / (4050000 - bow));
            return turn < 1800 ? part : -part;
        }
    }

    /** What ships can pass, from when on, by which speed. */
    private static final class Pilot {
        private static final long HELD = 1000000000L;
        private static final int MOST_SQUAT = 9999;
        private static final int LONGEST_PASS = 30;
        private static final int STARTS = DAY + (MANY - 1) * LARGEST_GAP;
        // Four brackets, each with a sum and a product waiting, need 11.
        private static final int STACK = 16;

        private final Chart chart;
        private final Tide tide;
        private final long[] stack = new long[STACK];
        private final int[] waters = new int[STARTS + LONGEST_PASS];
        private final int[] runs = new int[STARTS + LONGEST_PASS];
        // Of each start the ships that still may go then, as bits.
        private final int[] goods = new int[STARTS];
        private final byte[] reached = new byte[SOONEST_SPAN + 1];
        private final byte[] reachedNext = new byte[SOONEST_SPAN + 1];
        // Sets of ships, as bits, for which no order was found from the start that is tried.
        private long hopeless;
        final int[] lineUp = new int[MANY];

        Pilot(Chart chart, Tide tide) {
            this.chart = chart;
            this.tide = tide;
        }

        int sinks(int ship, int speed, int draught, int depthNow) {
            int block = chart.shipOf(ship, BLOCK);
            if (chart.formula.length == 0) {
                return block * speed * speed / 100;
            }
            int top = 0;
            for (int i = 0; i < chart.formula.length; i++) {
                int item = chart.formula[i];
                if (item <= ITEM_PLUS) {
                    if (top >= 2) {
                        top--;
                        stack[top - 1] = joinedBy(item, stack[top - 1], stack[top]);
                    }
                } else if (top < STACK) {
                    stack[top] = item >= 0 ? item : item == ITEM_SPEED ? speed : item == ITEM_BLOCK ? block
                            : item == ITEM_DRAUGHT ? draught : depthNow;
                    top++;
                }
            }
            return (int) Math.max(0, Math.min(MOST_SQUAT, stack[0]));
        }

        private static long joinedBy(int item, long a, long b) {
            switch (item) {
                case ITEM_PLUS:
                    return held(a + b);
                case ITEM_MINUS:
                    return held(a - b);
                case ITEM_TIMES:
                    return held(a * b);
                default:
                    return b == 0 ? 0 : a / b;
            }
        }

        private static long held(long number) {
            return number > HELD ? HELD : number < -HELD ? -HELD : number;
        }

        int belowKeel(int ship, int speed, int draught, int depthNow) {
            return depthNow - draught - sinks(ship, speed, draught, depthNow);
        }

        boolean isClear(int ship, int speed, int draught, int depthNow) {
            return belowKeel(ship, speed, draught, depthNow) >= chart.shipOf(ship, KEEP);
        }

        boolean isGood(int ship, int start, int speed) {
            int count = gatherWaters(ship, start, speed);
            return firstUnclear(ship, speed, chart.shipOf(ship, DRAUGHT), count) == NONE;
        }

        int leastBelowKeel(int ship, int start, int speed) {
            int count = gatherWaters(ship, start, speed);
            if (count == 0) {
                return NO;
            }
            int draught = chart.shipOf(ship, DRAUGHT);
            int lowest = belowKeel(ship, speed, draught, waters[0]);
            for (int i = 1; i < count; i++) {
                lowest = Math.min(lowest, belowKeel(ship, speed, draught, waters[i]));
            }
            return lowest;
        }

        int deepestDraught(int ship, int start, int speed) {
            int count = gatherWaters(ship, start, speed);
            int draught = MOST_DRAUGHT;
            for (int i = 0; i < count; i++) {
                draught = Math.min(draught, waters[i] - chart.shipOf(ship, KEEP));
            }
            // A formula may let a deeper ship sink less: so every draught is tried,
            // first where the one ahead of it failed.
            int failed = 0;
            for (; draught >= LEAST_DRAUGHT; draught--) {
                if (count > 0 && !isClear(ship, speed, draught, waters[failed])) {
                    continue;
                }
                int unclear = firstUnclear(ship, speed, draught, count);
                if (unclear == NONE) {
                    return draught;
                }
                failed = unclear;
            }
            return NONE;
        }

        /** The waters of all minutes in which a passage passes bars, rows of one and the same as one. */
        private int gatherWaters(int ship, int start, int speed) {
            int count = 0;
            for (int bar = 0; bar < chart.bars; bar++) {
                int from = start + chart.comesAfter(ship, speed, bar);
                int takes = chart.lengthTime(bar, speed);
                for (int i = 0; i <= takes && count < waters.length; i++) {
                    int depthThen = tide.waterAt(bar, from + i);
                    if (count == 0 || waters[count - 1] != depthThen) {
                        waters[count] = depthThen;
                        count++;
                    }
                }
            }
            return count;
        }

        private int firstUnclear(int ship, int speed, int draught, int count) {
            for (int i = 0; i < count; i++) {
                if (!isClear(ship, speed, draught, waters[i])) {
                    return i;
                }
            }
            return NONE;
        }

        void findPassable(int ship, int bar, int speed, int m) {
            Arrays.fill(goods, 1 << ship);
            dropUnpassable(ship, bar, speed, m, DAY);
        }

        /** Fills goods for a day of starts of a set, and for the later starts of those behind the first. */
        void findGood(int set, int speed, int m) {
            int count = DAY + (Integer.bitCount(set) - 1) * chart.gap;
            Arrays.fill(goods, set);
            for (int ship = 0; ship < chart.ships; ship++) {
                if ((set >> ship & 1) == 0) {
                    continue;
                }
                for (int bar = 0; bar < chart.bars; bar++) {
                    dropUnpassable(ship, bar, speed, m + chart.comesAfter(ship, speed, bar), count);
                }
            }
        }

        /** Takes a ship out of goods wherever it can't pass a bar, which it comes to first in a minute. */
        private void dropUnpassable(int ship, int bar, int speed, int first, int count) {
            int takes = chart.lengthTime(bar, speed);
            int filled = fillWaters(bar, first, count + takes);
            fillRuns(ship, speed, 0, filled);
            for (int i = 0; i < count && i < goods.length; i++) {
                if (runs[i] <= takes) {
                    goods[i] &= ~(1 << ship);
                }
            }
        }

        private int fillWaters(int bar, int first, int count) {
            int filled = Math.min(count, waters.length);
            for (int i = 0; i < filled; i++) {
                waters[i] = tide.waterAt(bar, first + i);
            }
            return filled;
        }

        /** Of each place in waters how many from it on a ship is clear in, up to count. */
        private void fillRuns(int ship, int speed, int from, int count) {
            int draught = chart.shipOf(ship, DRAUGHT);
            int need = draught + chart.shipOf(ship, KEEP);
            int sinksBy = 0;
            int run = 0;
            for (int i = count - 1; i >= from; i--) {
                if (i == count - 1 || chart.formulaHasWater && waters[i] != waters[i + 1]) {
                    sinksBy = sinks(ship, speed, draught, waters[i]);
                }
                run = waters[i] - sinksBy >= need ? run + 1 : 0;
                runs[i] = run;
            }
        }

        /** Of the k-th window in goods its first or its last place; how many there are for NONE; or NO. */
        int windowPlace(int k, int what) {
            int seen = 0;
            for (int i = 0; i < DAY; i++) {
                if (goods[i] == 0 || i > 0 && goods[i - 1] != 0) {
                    continue;
                }
                if (seen == k) {
                    return what == 0 ? i : windowEnd(i);
                }
                seen++;
            }
            return k == NONE ? seen : NO;
        }

        private int windowEnd(int from) {
            for (int i = from; i < DAY - 1; i++) {
                if (goods[i + 1] == 0) {
                    return i;
                }
            }
            return DAY - 1;
        }

        int soonestEnd(int ship, int start) {
            Arrays.fill(reached, (byte) 0);
            reached[0] = 1;
            boolean out = chart.shipOf(ship, OUT) == 1;
            int earliest = 0;
            for (int leg = 0; leg < chart.bars && earliest != NONE; leg++) {
                int bar = out ? chart.bars - 1 - leg : leg;
                fillWaters(bar, start, SOONEST_SPAN + 1);
                Arrays.fill(reachedNext, (byte) 0);
                for (int speed = chart.shipOf(ship, LEAST); speed <= chart.shipOf(ship, MOST); speed++) {
                    int travel = !out ? chart.farTime(bar, speed)
                            : leg == 0 ? 0 : chart.farTime(bar + 1, speed);
                    reachBehind(ship, bar, speed, travel, earliest);
                }
                System.arraycopy(reachedNext, 0, reached, 0, reached.length);
                earliest = firstReached();
            }
            return earliest == NONE ? NONE : start + earliest;
        }

        private void reachBehind(int ship, int bar, int speed, int travel, int earliest) {
            int takes = chart.lengthTime(bar, speed);
            boolean lie = chart.barOf(bar, LIE) == 1;
            int from = earliest + travel;
            fillRuns(ship, speed, from, SOONEST_SPAN + 1);
            for (int i = from; i + takes <= SOONEST_SPAN; i++) {
                if (runs[i] > takes && (lie || reached[i - travel] != 0)) {
                    reachedNext[i + takes] = 1;
                }
            }
        }

        private int firstReached() {
            for (int i = 0; i < reached.length; i++) {
                if (reached[i] != 0) {
                    return i;
                }
            }
            return NONE;
        }

        /** The first place in goods from which on all of a set can go by their numbers. */
        int convoyStart(int set) {
            for (int i = 0; i < DAY; i++) {
                if (allGood(set, i)) {
                    return i;
                }
            }
            return NONE;
        }

        private boolean allGood(int set, int first) {
            int at = first;
            for (int ship = 0; ship < chart.ships && at < goods.length; ship++) {
                if ((set >> ship & 1) == 1) {
                    if ((goods[at] >> ship & 1) == 0) {
                        return false;
                    }
                    at += chart.gap;
                }
            }
            return true;
        }

        /** The first place in goods from which on a set can go in some order; the first such one is in lineUp then. */
        int bestOrderStart(int set) {
            for (int i = 0; i < DAY; i++) {
                hopeless = 0;
                if (linesUp(0, set, i)) {
                    return i;
                }
            }
            return NONE;
        }

        private boolean linesUp(int place, int rest, int at) {
            if (rest == 0) {
                return true;
            }
            if (place >= MANY || at >= goods.length || (hopeless >> rest & 1) == 1) {
                return false;
            }
            for (int ship = 0; ship < chart.ships; ship++) {
                if ((goods[at] & rest & 1 << ship) != 0) {
                    lineUp[place] = ship;
                    if (linesUp(place + 1, rest & ~(1 << ship), at + chart.gap)) {
                        return true;
                    }
                }
            }
            hopeless |= 1L << rest;
            return false;
        }
    }
}
