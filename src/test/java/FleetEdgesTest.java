import java.util.NoSuchElementException;

/** The sentences of the document that name edges of convoys and bookings (promises 8, 9 and 28 to 31). */
public final class FleetEdgesTest {
    private static final Class<IllegalStateException> STATE = IllegalStateException.class;
    private static final Class<IllegalArgumentException> NUMBER = IllegalArgumentException.class;

    /** In each 60 minutes the height is 345 or more from the 10th to the 20th, 200 or more from the 5th to the 25th. */
    private static final String PULSE = "mean 0;wave 400 60 0;squat 0;bar 0 900 1 0 100;";
    /** By 6 knots it has good STARTS from the 10th to the 19th. */
    private static final String DEEP = "ship 1000 50 245 6 6;";
    /** By 6 knots it has good STARTS from the 5th to the 24th. */
    private static final String LIGHT = "ship 1000 50 100 6 6;";
    private static final String ALWAYS = "ship 100 50 0 6 6;";
    private static final String NEVER = "ship 1300 50 1 6 6;";

    private final Check check = new Check("FleetEdgesTest");

    public static void main(String[] args) {
        FleetEdgesTest test = new FleetEdgesTest();
        test.convoyGap();
        test.convoyByNumbers();
        test.convoyDay();
        test.convoySets();
        test.convoyFull();
        test.convoyLastStart();
        test.orderLeast();
        test.orderTies();
        test.orderDay();
        test.orderPlaces();
        test.orderAsTrying();
        test.closeGap();
        test.closeGap0();
        test.closeSomeBar();
        test.closeWhom();
        test.bookStart();
        test.bookSpeed();
        test.bookGood();
        test.bookBooked();
        test.bookClose();
        test.bookWithoutBars();
        test.cancel();
        test.staysBooked();
        test.aground();
        test.check.end();
    }

    // ---- convoys

    private int pair(int gap, int m) {
        return Texts.gates(PULSE + DEEP + DEEP + "gap " + gap + ";").convoy(3, 6, m);
    }

    private void convoyGap() {
        check.says("the first one's START is that, each other one's GAP later than that of the one ahead;"
                + " all are GOOD");
        check.is("gap 0", pair(0, 0), 10);
        check.is("gap 0", pair(0, 19), 19);
        check.is("gap 0", pair(0, 20), 70);
        check.is("gap 1", pair(1, 18), 18);
        check.is("gap 1", pair(1, 19), 70);
        check.is("gap 9", pair(9, 0), 10);
        check.is("gap 9", pair(9, 11), 70);
        check.is("gap 10", pair(10, 0), -1);
        check.is("gap 50", pair(50, 0), -1);
        check.is("gap 51", pair(51, 0), 19);
        check.is("gap 60", pair(60, 0), 10);
        check.is("gap 240", pair(240, 0), 10);
        check.is("gap 240", pair(240, 20), 70);
        check.is("gap 239", pair(239, 0), 11);
        check.is("15 without", Texts.gates(PULSE + LIGHT + LIGHT).convoy(3, 6, 0), 5);
        check.is("15 without", Texts.gates(PULSE + LIGHT + LIGHT).convoy(3, 6, 9), 9);
        check.is("15 without", Texts.gates(PULSE + LIGHT + LIGHT).convoy(3, 6, 10), 65);
        String three = PULSE + DEEP + DEEP + DEEP;
        check.is("three", Texts.gates(three + "gap 4;").convoy(7, 6, 0), 10);
        check.is("three", Texts.gates(three + "gap 4;").convoy(7, 6, 11), 11);
        check.is("three", Texts.gates(three + "gap 4;").convoy(7, 6, 12), 70);
        check.is("three", Texts.gates(three + "gap 5;").convoy(7, 6, 0), -1);
        check.is("two of three", Texts.gates(three + "gap 5;").convoy(5, 6, 0), 10);
        check.is("two of three", Texts.gates(three + "gap 5;").convoy(5, 6, 15), 70);
    }

    private void convoyByNumbers() {
        check.says("CONVOY of a set of SHIPS (bits, 1 and more), by numbers, by a SPEED");
        TideGates x = Texts.gates(PULSE + DEEP + LIGHT + ALWAYS + "gap 6;");
        check.is("0, 1", x.convoy(3, 6, 0), 10);
        check.is("0, 1 though 1, 0 could go sooner", x.convoy(3, 6, 20), 70);
        check.is("1, 2", x.convoy(6, 6, 0), 5);
        check.is("0, 2", x.convoy(5, 6, 0), 10);
        check.is("0, 1, 2", x.convoy(7, 6, 19), 70);
        check.is("0, 1, 2", x.convoy(7, 6, 18), 18);
        TideGates y = Texts.gates(PULSE + LIGHT + DEEP + "gap 6;");
        check.is("lighter first", y.convoy(3, 6, 0), 5);
        check.is("lighter first", y.convoy(3, 6, 13), 13);
        check.is("lighter first", y.convoy(3, 6, 14), 65);
    }

    private void convoyDay() {
        check.says("the first START of 1,440 MINUTES from one on; NONE: none.");
        // 399 or more from the 2,480th to the 2,520th minute, and 2,000 ahead.
        TideGates x = Texts.gates("mean 0;wave 400 2000 0;squat 0;bar 0 900 1 0 100;ship 1000 50 299 6 6;"
                + "ship 100 50 0 6 6;gap 240;");
        check.is("the last of them", x.convoy(1, 6, 1041), 2480);
        check.is("one too late", x.convoy(1, 6, 1040), -1);
        check.is("the first of them", x.convoy(1, 6, 2480), 2480);
        check.is("the first of them", x.convoy(1, 6, 2519), 2519);
        check.is("behind the last", x.convoy(1, 6, 2520), -1);
        check.is("order likewise", x.order(1, 6, 1041, -1), 2480);
        check.is("order likewise", x.order(1, 6, 1040, -1), -1);
        // The first one's START is within them: the other one's may be later.
        TideGates y = Texts.gates("mean 0;wave 400 2000 0;squat 0;bar 0 900 1 0 100;ship 100 50 0 6 6;"
                + "ship 1000 50 299 6 6;gap 240;");
        check.is("the last of them", y.convoy(3, 6, 801), 2240);
        check.is("one too late", y.convoy(3, 6, 800), -1);
        check.is("from 10,000 on", y.convoy(3, 6, 10000), 10240);
        check.is("from 9,000 on", y.convoy(3, 6, 9000), 10240);
        check.is("from 8,801 on", y.convoy(3, 6, 8801), 10240);
        check.is("from 8,800 on", y.convoy(3, 6, 8800), -1);
    }

    private void convoySets() {
        TideGates x = Texts.gates(PULSE + DEEP + NEVER + ALWAYS);
        check.is("one", x.convoy(1, 6, 0), 10);
        check.is("never", x.convoy(2, 6, 0), -1);
        check.is("never with it", x.convoy(7, 6, 0), -1);
        check.is("without it", x.convoy(4, 6, 33), 33);
        for (int set : new int[] {0, -1, 8, 9, 64, Integer.MIN_VALUE, Integer.MAX_VALUE}) {
            check.refuses("set " + set, () -> x.convoy(set, 6, 0), NUMBER);
            check.refuses("set " + set, () -> x.order(set, 6, 0, 0), NUMBER);
        }
        TideGates none = Texts.gates("mean 0;bar 0 900 1 0 100;");
        check.refuses("no ships", () -> none.convoy(1, 6, 0), NUMBER);
        TideGates six = Texts.gates(PULSE + ALWAYS.repeat(6));
        check.is("all six", six.convoy(63, 6, 5), 5);
        check.is("the sixth", six.convoy(32, 6, 5), 5);
        check.refuses("a seventh", () -> six.convoy(64, 6, 5), NUMBER);
        TideGates noBars = Texts.gates("mean 0;" + NEVER.repeat(6) + "gap 240;");
        check.is("no bars", noBars.convoy(63, 25, 10000), 10000);
        check.is("no bars", noBars.order(63, 4, 10000, 5), 5);
    }

    private void convoyFull() {
        // Six, a GAP of 240, the longest passage: the last one's last minute is 10,000 and 1,439 and 1,200 and 1,980.
        String bars = "bar 200 3000 20 300 100;".repeat(5) + "bar 200 900 20 300 100;";
        TideGates x = Texts.gates("mean 0;wave 400 2000 0;squat 0;gap 240;" + bars + "ship 100 50 0 4 4;".repeat(5)
                + "ship 1000 50 200 4 4;");
        // The last bar lets the last ship through from 1,200 and 1,950 behind the first one's START on, for 30 minutes.
        int due = -1;
        for (int start = 10000; start < 11440 && due == -1; start++) {
            boolean clear = true;
            for (int i = 0; i <= 30; i++) {
                // The tide comes again in 2,000 minutes.
                clear &= x.water(5, (start + 1200 + 1950 + i) % 2000 + 2000) >= 1200;
            }
            due = clear ? start : -1;
        }
        check.isTrue("there is one behind the first", due > 10000);
        check.is("all six", x.convoy(63, 4, 10000), due);
        check.is("in their best order", x.order(63, 4, 10000, -1) <= due ? 1 : 0, 1);
    }

    /** The last of 1,440 STARTS, five GAPS of 240, half an hour on the bar: the last minute that a convoy asks for. */
    private void convoyLastStart() {
        // The last ship needs a height of 395, once in 2,000 minutes; it passes for 30.
        TideGates x = Texts.gates("mean 0;wave 400 2000 0;gap 240;squat 100;bar 0 1000 20 0 100;"
                + "ship 100 50 0 4 4;".repeat(5) + "ship 1000 50 295 4 4;");
        int first = x.window(5, 0, 4, 4100, 0, 0);
        int last = x.window(5, 0, 4, 4100, 0, 1);
        check.is("clear for as long", x.above(0, 1395, first, last + 30 - first + 1), last + 30 - first + 1);
        check.is("and no longer", x.above(0, 1395, first - 1, 1) + x.above(0, 1395, last + 31, 1), 0);
        check.is("the last START is the first good one", x.convoy(63, 4, first - 1200 - 1439), first - 1200);
        check.is("one ahead of it", x.convoy(63, 4, first - 1200 - 1440), -1);
        check.is("the last good one", x.convoy(63, 4, last - 1200), last - 1200);
        check.is("one behind it", x.convoy(63, 4, last - 1200 + 1), -1);
        // Two waves that are high together but once in these days: in no order can it be sooner.
        TideGates y = Texts.gates("mean 500;wave 400 2000 1100;wave 400 1333 601;gap 240;bar 0 900 20 0 100;"
                + "ship 100 40 0 4 9;".repeat(5) + "ship 1700 40 300 4 9;");
        int high = y.window(5, 0, 4, 2200, 0, 0);
        check.is("the last START in its best order", y.order(63, 4, high - 1200 - 1439, -1), high - 1200);
        check.is("that ship behind all", y.order(63, 4, high - 1200 - 1439, 5), 5);
        check.is("one ahead of it", y.order(63, 4, high - 1200 - 1440, -1), -1);
    }

    // ---- orders

    private void order(TideGates x, int set, int m, int start, int... ships) {
        check.is("start from " + m, x.order(set, 6, m, -1), start);
        for (int k = 0; k < ships.length; k++) {
            check.is(k + "-th from " + m, x.order(set, 6, m, k), ships[k]);
        }
    }

    private void orderLeast() {
        check.says("Of all orders of a set that with the least such START");
        TideGates x = Texts.gates(PULSE + DEEP + LIGHT + ALWAYS + "gap 6;");
        // 0, 1: from 10 to 18; 1, 0: from 5 to 13.
        order(x, 3, 0, 5, 1, 0);
        order(x, 3, 9, 9, 1, 0);
        order(x, 3, 14, 14, 0, 1);
        order(x, 3, 18, 18, 0, 1);
        order(x, 3, 19, 65, 1, 0);
        order(x, 5, 0, 4, 2, 0);
        order(x, 5, 20, 64, 2, 0);
        order(x, 5, 14, 14, 0, 2);
        order(x, 1, 0, 10, 0);
        order(x, 4, 33, 33, 2);
        // All: 2 first, 1 next, 0 last from -2 on: from 0 on it is fine (6, 12).
        order(x, 7, 0, 0, 2, 1, 0);
    }

    private void orderTies() {
        check.says("of several the first by the number of its first SHIP, then of its second one, ..:");
        TideGates x = Texts.gates(PULSE + DEEP + LIGHT + ALWAYS + "gap 6;");
        // From 10 on both orders of 0 and 1 are fine.
        order(x, 3, 10, 10, 0, 1);
        order(x, 3, 13, 13, 0, 1);
        // All three from 5 on: 0 must start from 10 on: it can be second (11) behind 1 or 2, and third (17).
        order(x, 7, 5, 5, 1, 0, 2);
        // From 10 on it can be first, and 1 second.
        order(x, 7, 10, 10, 0, 1, 2);
        // From 14 on 0 must be first; from 13 on 1 may be third no more (25).
        order(x, 7, 13, 13, 0, 1, 2);
        order(x, 7, 18, 18, 0, 1, 2);
        order(x, 7, 19, 59, 2, 1, 0);
        // Two that need the same 10 minutes, and one that may go at any time: it goes ahead of them or behind them.
        TideGates y = Texts.gates(PULSE + ALWAYS + DEEP + DEEP + "gap 6;");
        order(y, 7, 4, 4, 0, 1, 2);
        order(y, 7, 7, 7, 0, 1, 2);
        order(y, 7, 8, 10, 1, 2, 0);
        order(y, 7, 13, 13, 1, 2, 0);
        order(y, 7, 14, 64, 0, 1, 2);
    }

    private void orderDay() {
        TideGates x = Texts.gates(PULSE + NEVER + ALWAYS);
        check.is("none", x.order(3, 6, 0, -1), -1);
        check.is("none", x.order(3, 6, 0, 0), -1);
        check.is("none", x.order(3, 6, 0, 1), -1);
        check.refuses("no place all the same", () -> x.order(3, 6, 0, 2), NoSuchElementException.class);
    }

    private void orderPlaces() {
        check.says("its k-th SHIP; k NONE: the START; NONE: there is none.");
        TideGates x = Texts.gates(PULSE + ALWAYS.repeat(6) + "gap 240;");
        for (int k = 0; k < 6; k++) {
            check.is("all alike: by numbers", x.order(63, 6, 7, k), k);
        }
        check.is("start", x.order(63, 6, 7, -1), 7);
        check.is("some", x.order(42, 6, 7, 0) * 100 + x.order(42, 6, 7, 1) * 10 + x.order(42, 6, 7, 2), 135);
        check.refuses("no seventh", () -> x.order(63, 6, 7, 6), NoSuchElementException.class);
        check.refuses("no fourth", () -> x.order(42, 6, 7, 3), NoSuchElementException.class);
        check.refuses("-2", () -> x.order(42, 6, 7, -2), NoSuchElementException.class);
    }

    /** All orders one by one, by least() alone; those that go out are on the bar 7 minutes sooner than the others. */
    private void orderAsTrying() {
        String bar = "mean 0;wave 400 60 0;squat 0;bar 7 900 1 0 100;";
        String[] fleets = {DEEP + LIGHT + ALWAYS + "ship 1000 50 290 6 6;", ALWAYS + DEEP + DEEP + LIGHT + LIGHT,
            DEEP + "ship 1000 50 245 6 6 out;" + LIGHT + "ship 1000 50 100 6 6 out;" + ALWAYS,
            "ship 1000 50 0 6 6 out;" + DEEP + DEEP + LIGHT + ALWAYS + ALWAYS};
        for (String fleet : fleets) {
            for (int gap = 0; gap <= 12; gap += 3) {
                TideGates x = Texts.gates(bar + fleet + "gap " + gap + ";");
                for (int m = 0; m < 60; m += 7) {
                    asTrying(x, (1 << x.told(2)) - 1, m);
                }
            }
        }
    }

    private void asTrying(TideGates x, int set, int m) {
        int[] ships = new int[7];
        int best = -1;
        for (int start = m; start < m + 70 && best == -1; start++) {
            best = tries(x, set, start, 0, ships) ? start : -1;
        }
        // The tide comes again in 60 minutes: what is not found in 70 is never found.
        check.is("least start from " + m, x.order(set, 6, m, -1), best);
        for (int k = 0; k < x.told(2); k++) {
            check.is(k + "-th from " + m, x.order(set, 6, m, k), best == -1 ? -1 : ships[k]);
        }
    }

    private static boolean tries(TideGates x, int rest, int start, int place, int[] ships) {
        for (int ship = 0; ship < x.told(2) && rest != 0; ship++) {
            if ((rest >> ship & 1) == 1 && x.least(ship, start, 6) >= x.ship(ship, 2)) {
                ships[place] = ship;
                if (tries(x, rest & ~(1 << ship), start + x.told(4), place + 1, ships)) {
                    return true;
                }
            }
        }
        return rest == 0;
    }

    // ---- close

    private TideGates booked(int gap, int start) {
        TideGates x = Texts.gates("mean 0;bar 0 900 1 0 100;ship 100 50 0 6 6;ship 100 50 0 6 6;gap " + gap + ";");
        x.book(0, start, 6);
        return x;
    }

    private void closeGap() {
        check.says("there are MINUTES of one and of the other (passing it) that are less than GAP apart");
        // On the bar in the 500th and the 501st minute.
        int[][] due = {{15, 485, 516}, {1, 499, 502}, {2, 498, 503}, {240, 260, 741}, {239, 261, 740}};
        for (int[] row : due) {
            TideGates x = booked(row[0], 500);
            check.is("last not close ahead, gap " + row[0], x.close(1, row[1] - 1, 6), 0);
            check.is("first close ahead, gap " + row[0], x.close(1, row[1], 6), 1);
            check.is("at once, gap " + row[0], x.close(1, 500, 6), 1);
            check.is("last close behind, gap " + row[0], x.close(1, row[2] - 1, 6), 1);
            check.is("first not close behind, gap " + row[0], x.close(1, row[2], 6), 0);
        }
    }

    private void closeGap0() {
        check.says("that are less than GAP apart, or one and the same.");
        TideGates x = booked(0, 500);
        check.is("next", x.close(1, 502, 6), 0);
        check.is("shared", x.close(1, 501, 6), 1);
        check.is("shared", x.close(1, 500, 6), 1);
        check.is("shared", x.close(1, 499, 6), 1);
        check.is("next ahead", x.close(1, 498, 6), 0);
        // One within the other: a fast one passes while a slow one is on the bar.
        TideGates y = Texts.gates("mean 0;bar 0 900 20 0 100;ship 100 50 0 4 4;ship 100 50 0 25 25;gap 0;squat 0;");
        y.book(0, 500, 4);
        check.is("ahead", y.close(1, 494, 25), 0);
        check.is("its last is the first", y.close(1, 495, 25), 1);
        check.is("within", y.close(1, 512, 25), 1);
        check.is("its first is the last", y.close(1, 530, 25), 1);
        check.is("behind", y.close(1, 531, 25), 0);
        TideGates z = Texts.gates("mean 0;bar 0 900 20 0 100;ship 100 50 0 4 4;ship 100 50 0 25 25;gap 0;squat 0;");
        z.book(1, 512, 25);
        check.is("round it", z.close(0, 500, 4), 2);
        check.is("round it", z.close(0, 487, 4), 2);
        check.is("behind it", z.close(0, 518, 4), 0);
        check.is("ahead of it", z.close(0, 481, 4), 0);
        check.is("just at it", z.close(0, 482, 4), 2);
    }

    private void closeSomeBar() {
        check.says("Two of them are CLOSE, if at some BAR");
        // On the first bar in 500, 501, on the second in 531, 532.
        String text = "mean 0;bar 0 900 1 0 100;bar 30 900 1 0 100;gap 10;squat 0;ship 100 50 0 6 6;"
                + "ship 100 50 0 4 25;ship 100 50 0 4 25 out;";
        TideGates x = Texts.gates(text);
        x.book(0, 500, 6);
        // By 25: on the first in s, s + 1, on the second in s + 9, s + 10.
        check.is("behind, catching up at the second", x.close(1, 520, 25), 1);
        check.is("the last at the first", x.close(1, 510, 25), 1);
        check.is("neither at the first nor at the second", x.close(1, 511, 25), 0);
        check.is("the first at the second", x.close(1, 512, 25), 1);
        check.is("ahead at both", x.close(1, 480, 25), 0);
        check.is("close at the first alone", x.close(1, 500, 25), 1);
        check.is("close at the first alone", x.close(1, 490, 25), 1);
        check.is("at neither any more", x.close(1, 489, 25), 0);
        check.is("passed at both", x.close(1, 533, 25), 0);
        check.is("just at the second", x.close(1, 532, 25), 1);
        // Between them the two may meet: out by 25 on the second in s, s + 1, on the first in s + 9, s + 10.
        TideGates y = Texts.gates(text.replace("gap 10", "gap 5"));
        y.book(0, 500, 6);
        check.is("met between the bars", y.close(2, 515, 25), 0);
        check.is("met on the first", y.close(2, 496, 25), 1);
        check.is("met on the second", y.close(2, 531, 25), 1);
        // At the first up to 505 (less 9), at the second from 527 (less 1) on.
        check.is("the last at the first", y.close(2, 496, 25), 1);
        check.is("not any more", y.close(2, 497, 25), 0);
        check.is("the first at the second", y.close(2, 526, 25), 1);
        check.is("not yet", y.close(2, 525, 25), 0);
        TideGates none = Texts.gates("mean 0;ship 100 50 0 6 6;ship 100 50 0 6 6;gap 240;");
        none.book(0, 500, 6);
        check.is("no bars", none.close(1, 500, 6), 0);
    }

    private void closeWhom() {
        check.says("SHIPS that are BOOKED to which a SHIP would be CLOSE from a START on by a SPEED, as bits"
                + " (itself aside).");
        TideGates x = Texts.gates("mean 0;bar 0 900 1 0 100;" + "ship 100 50 0 6 6;".repeat(6) + "gap 20;");
        check.is("nobody is booked", x.close(0, 100, 6), 0);
        for (int ship = 0; ship < 5; ship++) {
            x.book(ship, 100 + 21 * ship, 6);
        }
        check.is("itself aside", x.close(0, 100, 6), 0);
        check.is("the next", x.close(0, 101, 6), 2);
        check.is("between two", x.close(5, 110, 6), 3);
        check.is("one, just 20 from its neighbours", x.close(5, 121, 6), 2);
        check.is("the last", x.close(5, 200, 6), 16);
        check.is("last and last but one", x.close(5, 180, 6), 24);
        check.is("none", x.close(5, 205, 6), 0);
        x.cancel(1);
        check.is("not booked any more", x.close(5, 121, 6), 0);
        // A START that is not GOOD, above 2,000, may be asked.
        x.sound(0, 100);
        x.surge(-300);
        check.is("aground all the same", x.close(5, 110, 6), 1);
        check.is("late", x.close(5, 10000, 6), 0);
    }

    // ---- bookings

    private static final String STILL = "mean 0;squat speed*10;bar 10 900 5 0 100;ship 500 50 100 5 20;"
            + "ship 500 50 100 5 20 out;";

    private void bookStart() {
        check.says("from a START (0 to 2,000) on");
        for (int start : new int[] {0, 1, 1999, 2000}) {
            TideGates x = Texts.gates(STILL);
            check.is("ends", x.book(0, start, 10), start + 9);
            check.is("start", x.ship(0, 6), start);
            check.is("speed", x.ship(0, 7), 10);
        }
        TideGates x = Texts.gates(STILL);
        for (int start : new int[] {-1, 2001, 10000, Integer.MIN_VALUE, Integer.MAX_VALUE}) {
            check.refuses("start " + start, () -> x.book(0, start, 10), NUMBER);
        }
        check.is("not booked", x.told(6), 0);
        check.is("no act", x.told(8), 1);
    }

    private void bookSpeed() {
        check.says("by a SPEED (its LEAST to its MOST): the MINUTE in which it ENDS.");
        int[][] due = {{5, 12 + 6}, {6, 10 + 5}, {19, 4 + 2}, {20, 3 + 2}};
        for (int[] row : due) {
            check.is("in by " + row[0], Texts.gates(STILL).book(0, 100, row[0]), 100 + row[1]);
            check.is("out by " + row[0], Texts.gates(STILL).book(1, 100, row[0]), 100 + (30 + row[0] - 1) / row[0]);
        }
        TideGates x = Texts.gates(STILL);
        for (int speed : new int[] {4, 21, 25, 0, -5}) {
            check.refuses("by " + speed, () -> x.book(0, 100, speed), NUMBER);
        }
    }

    private void bookGood() {
        check.says("the START is not GOOD");
        for (int start : new int[] {10, 19, 70, 1990 - 1990 % 60 + 10}) {
            check.is("good", Texts.gates(PULSE + DEEP).book(0, start, 6), start + 1);
        }
        for (int start : new int[] {0, 9, 20, 69, 80, 2000}) {
            TideGates x = Texts.gates(PULSE + DEEP);
            check.refuses("not good " + start, () -> x.book(0, start, 6), STATE);
            check.is("not booked", x.told(6), 0);
            check.is("counted", x.status(2), 1);
        }
    }

    private void bookBooked() {
        check.says("IllegalStateException: it is BOOKED");
        TideGates x = Texts.gates(STILL);
        x.book(0, 100, 10);
        check.refuses("the same again", () -> x.book(0, 100, 10), STATE);
        check.refuses("long behind", () -> x.book(0, 1500, 10), STATE);
        check.is("its start stays", x.ship(0, 6), 100);
        check.is("another one", x.book(1, 1500, 10), 1503);
        x.cancel(0);
        check.is("again behind a cancel", x.book(0, 200, 20), 205);
        // START 0 is one, too.
        TideGates y = Texts.gates(STILL);
        y.book(0, 0, 10);
        check.is("booked from 0 on", y.told(6), 1);
        check.refuses("twice", () -> y.book(0, 500, 10), STATE);
        check.is("its start", y.cancel(0), 0);
    }

    private void bookClose() {
        check.says("it is CLOSE to one that is BOOKED.");
        for (int gap : new int[] {0, 1, 2, 15, 240}) {
            int behind = Math.max(gap, 1);
            TideGates x = booked(gap, 500);
            check.refuses("too close behind", () -> x.book(1, 500 + behind, 6), STATE);
            check.refuses("too close ahead", () -> x.book(1, 500 - behind, 6), STATE);
            check.is("not booked", x.told(6), 1);
            check.is("not close behind", x.book(1, 501 + behind, 6), 502 + behind);
            x.cancel(1);
            check.is("not close ahead", x.book(1, 499 - behind, 6), 500 - behind);
        }
        TideGates x = booked(15, 500);
        x.cancel(0);
        check.is("nobody is booked any more", x.book(1, 500, 6), 501);
    }

    private void bookWithoutBars() {
        TideGates x = Texts.gates("mean 0;" + "ship 2500 95 300 4 4;".repeat(6) + "gap 240;");
        for (int ship = 0; ship < 6; ship++) {
            check.is("no bars", x.book(ship, 77, 4), 77);
        }
        check.is("all six", x.told(6), 63);
        check.is("none aground", x.aground(), 0);
    }

    private void cancel() {
        check.says("A SHIP is BOOKED no more: its START.");
        TideGates x = Texts.gates(STILL);
        check.refuses("not yet", () -> x.cancel(0), STATE);
        x.book(0, 2000, 10);
        check.refuses("the other one is not", () -> x.cancel(1), STATE);
        check.is("its start", x.cancel(0), 2000);
        check.refuses("not any more", () -> x.cancel(0), STATE);
        check.is("start", x.ship(0, 6), -1);
        check.is("speed", x.ship(0, 7), -1);
        check.is("told", x.told(6), 0);
        check.is("refused", x.status(2), 3);
        check.is("acts", x.told(8), 3);
    }

    private void staysBooked() {
        check.says("(Who is BOOKED stays so, whatever sound(), load(), surge() do.)");
        TideGates x = Texts.gates(STILL);
        x.book(0, 100, 10);
        x.book(1, 200, 10);
        x.sound(0, 100);
        check.is("both", x.told(6), 3);
        x.load(0, 2500);
        x.surge(-300);
        check.is("both", x.told(6), 3);
        check.is("start", x.ship(0, 6), 100);
        check.is("speed", x.ship(0, 7), 10);
        check.is("both aground", x.aground(), 3);
        check.is("can be taken off", x.cancel(0), 100);
        check.is("close all the same", x.close(0, 200 - 6, 10), 2);
        check.refuses("not good any more", () -> x.book(0, 100, 10), STATE);
    }

    private void aground() {
        check.says("SHIPS that are BOOKED whose START is not GOOD any more, as bits.");
        TideGates x = Texts.gates("mean 0;squat 0;bar 0 900 1 0 100;bar 0 900 1 0 100;"
                + "ship 500 50 100 6 6;ship 600 50 100 6 6;ship 700 50 100 6 6;ship 2500 50 0 6 6;");
        check.is("none booked", x.aground(), 0);
        x.book(0, 100, 6);
        x.book(1, 200, 6);
        x.book(2, 300, 6);
        check.is("all good", x.aground(), 0);
        x.sound(1, 800);
        check.is("just good", x.aground(), 0);
        x.sound(1, 799);
        check.is("one too shallow", x.aground(), 4);
        x.sound(1, 699);
        check.is("two", x.aground(), 6);
        x.sound(1, 599);
        check.is("all three, not who is not booked", x.aground(), 7);
        x.load(0, 499);
        check.is("lighter", x.aground(), 6);
        x.surge(1);
        check.is("higher", x.aground(), 6);
        x.surge(101);
        check.is("just good", x.aground(), 4);
        x.surge(201);
        check.is("just good", x.aground(), 0);
        x.surge(100);
        check.is("not any more", x.aground(), 6);
        x.cancel(1);
        check.is("not booked, not aground", x.aground(), 4);
        check.is("not booked, not aground", new TideGates().aground(), 0);
    }
}
