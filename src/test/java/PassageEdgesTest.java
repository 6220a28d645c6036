import java.util.NoSuchElementException;

/** The sentences of the document that name edges of passages (section 2, promises 22 to 27). */
public final class PassageEdgesTest {
    /** In each 60 minutes the height is 345 or more from the 10th to the 20th, 322 in the 9th and the 21st. */
    private static final String PULSE = "mean 0;wave 400 60 0;squat 0;";
    /** Needs just those 345 over bars of 900; by 6 knots a tenth of a mile takes a minute. */
    private static final String IN = "ship 1000 50 245 6 6;";
    private static final String OUT = "ship 1000 50 245 6 6 out;";

    private final Check check = new Check("PassageEdgesTest");

    public static void main(String[] args) {
        PassageEdgesTest test = new PassageEdgesTest();
        test.distances();
        test.bothEnds();
        test.inAndOut();
        test.eachForItself();
        test.longest();
        test.windows();
        test.windowsOfADay();
        test.windowsMissing();
        test.joinedIn();
        test.joinedOut();
        test.joinedOfADay();
        test.joinedWithoutBars();
        test.least();
        test.leastWithoutBars();
        test.deepest();
        test.deepestLimits();
        test.deepestByFormula();
        test.soonestLimit();
        test.soonestLongWay();
        test.soonestWaits();
        test.soonestWaitsOut();
        test.soonestSpeeds();
        test.soonestSlower();
        test.soonestWithoutBars();
        test.check.end();
    }

    private static String bar(int far, int length, String rest) {
        return "bar " + far + " 900 " + length + " " + rest + ";";
    }

    // ---- what a distance takes

    private void distances() {
        check.says("A distance takes 6 times it, by SPEED, rounded up.");
        int[][] due = {{1, 4, 2}, {1, 5, 2}, {1, 6, 1}, {1, 7, 1}, {1, 25, 1}, {2, 4, 3}, {2, 12, 1}, {2, 11, 2},
            {2, 13, 1}, {20, 4, 30}, {20, 24, 5}, {20, 25, 5}, {20, 7, 18}, {5, 10, 3}, {5, 9, 4}, {5, 11, 3}};
        for (int[] row : due) {
            TideGates x = Texts.gates("mean 0;bar 0 900 " + row[0] + " 0 100;ship 100 50 0 4 4;");
            check.is("a length of " + row[0] + " by " + row[1], x.lasts(0, row[1]), row[2]);
        }
        int[][] far = {{0, 4, 0}, {0, 25, 0}, {1, 25, 1}, {4, 24, 1}, {4, 23, 2}, {200, 4, 300}, {200, 7, 172},
            {200, 11, 110}, {200, 24, 50}, {200, 25, 48}, {199, 4, 299}, {199, 25, 48}, {100, 24, 25}, {100, 25, 24}};
        for (int[] row : far) {
            TideGates x = Texts.gates("mean 0;bar " + row[0] + " 900 1 0 100;ship 100 50 0 4 4;");
            check.is(row[0] + " by " + row[1], x.lasts(0, row[1]) - (row[1] < 6 ? 2 : 1), row[2]);
        }
    }

    private void bothEnds() {
        check.says("all MINUTES from that to it and what its LENGTH takes (both, too); it can, if it is CLEAR in all"
                + " of them");
        // Clear from the 10th to the 20th.
        for (int length = 1; length <= 12; length++) {
            TideGates x = Texts.gates(PULSE + bar(0, length, "0 100") + IN);
            int starts = 11 - length;
            check.is("windows by length " + length, x.window(0, 0, 6, 0, -1, 0), starts > 0 ? 24 : 0);
            if (starts > 0) {
                check.is("first by length " + length, x.window(0, 0, 6, 0, 0, 0), 10);
                check.is("last by length " + length, x.window(0, 0, 6, 0, 0, 1), 20 - length);
            }
        }
    }

    private void inAndOut() {
        check.says("in: from the sea, how far the first BAR is, the first BAR, how far the second one is behind it,"
                + " and so on; out: the last BAR, how far it is behind the one ahead, that one, .., the first BAR;");
        String bars = "bar 10 900 1 0 100;bar 20 900 2 0 100;bar 40 900 4 0 100;";
        TideGates x = Texts.gates("mean 0;" + bars + "ship 100 50 0 4 4;ship 100 50 0 4 4 out;");
        check.is("in by 6", x.lasts(0, 6), 10 + 1 + 20 + 2 + 40 + 4);
        check.is("out by 6", x.lasts(1, 6), 4 + 40 + 2 + 20 + 1);
        check.says("each BAR is passed from the MINUTE on in which it comes there. It ENDS behind the last of these.");
        check.is("it ENDS behind the last", x.book(1, 100, 4), 100 + 6 + 60 + 3 + 30 + 2);
        TideGates one = Texts.gates("mean 0;bar 200 900 1 0 100;ship 100 50 0 4 4;ship 100 50 0 4 4 out;");
        check.is("one bar, in", one.lasts(0, 6), 201);
        check.is("one bar, out", one.lasts(1, 6), 1);
        TideGates none = Texts.gates("mean 0;ship 100 50 0 4 4;ship 100 50 0 4 4 out;");
        check.is("no bars, in", none.lasts(0, 4), 0);
        check.is("no bars, out", none.lasts(1, 25), 0);
    }

    private void eachForItself() {
        check.says("each distance, each LENGTH takes its time for itself");
        // By 25 each of the twelve takes 1 minute; together they would take 3.
        TideGates x = Texts.gates("mean 0;" + "bar 1 900 1 0 100;".repeat(6)
                + "ship 100 50 0 4 4;ship 100 50 0 4 4 out;");
        check.is("in by 25", x.lasts(0, 25), 12);
        check.is("out by 25", x.lasts(1, 25), 11);
        check.is("in by 5", x.lasts(0, 5), 24);
        check.is("out by 5", x.lasts(1, 5), 22);
    }

    private void longest() {
        check.says("How long a PASSAGE of a SHIP takes by a SPEED.");
        TideGates x = Texts.gates("mean 0;" + "bar 200 900 20 0 100;".repeat(6)
                + "ship 100 50 0 4 4;ship 100 50 0 4 4 out;");
        check.is("in by 4", x.lasts(0, 4), 6 * 330);
        check.is("out by 4", x.lasts(1, 4), 6 * 30 + 5 * 300);
        check.is("in by 25", x.lasts(0, 25), 6 * (48 + 5));
        check.is("booked for as long", x.book(0, 2000, 4), 3980);
        // From the last START on all minutes of the longest passage are looked at.
        TideGates y = Texts.gates("mean 0;wave 400 2000 1979;" + "bar 200 900 20 0 100;".repeat(6)
                + "ship 100 50 0 4 4;squat 0;");
        int last = 10000 + 1980;
        check.is("least at its end", y.least(0, 10000, 4), lowest(y, last));
    }

    /** The least LEFT of a passage with six longest bars, in its 186 minutes on them, by water() itself. */
    private static int lowest(TideGates x, int last) {
        int lowest = Integer.MAX_VALUE;
        for (int bar = 0; bar < 6; bar++) {
            for (int i = 0; i <= 30; i++) {
                int m = last - (5 - bar) * 330 - i;
                // The tide comes again in 2,000 minutes.
                lowest = Math.min(lowest, x.water(bar, m - 4000) - 100);
            }
        }
        return lowest;
    }

    // ---- windows

    private void windows() {
        check.says("of 1,440 MINUTES from one on those from which on it can pass it, in unbroken rows: of the k-th one"
                + " its first MINUTE (what 0), its last one (1)");
        TideGates x = Texts.gates(PULSE + bar(0, 1, "0 100") + IN);
        check.is("24 of them", x.window(0, 0, 6, 0, -1, 0), 24);
        for (int k = 0; k < 24; k++) {
            check.is("first of " + k, x.window(0, 0, 6, 0, k, 0), 60 * k + 10);
            check.is("last of " + k, x.window(0, 0, 6, 0, k, 1), 60 * k + 19);
        }
        // Only the 45th is too low: broken by the two starts from which on it would be on the bar then.
        TideGates y = Texts.gates(PULSE + bar(0, 1, "0 100") + "ship 503 50 0 6 6;");
        check.is("24 breaks", y.window(0, 0, 6, 0, -1, 0), 25);
        check.is("ahead of the first", y.window(0, 0, 6, 0, 0, 1), 43);
        check.is("behind it", y.window(0, 0, 6, 0, 1, 0), 46);
        check.is("behind it", y.window(0, 0, 6, 0, 1, 1), 103);
        check.is("to the day's end", y.window(0, 0, 6, 0, 24, 1), 1439);
        // All day, never, and one minute.
        TideGates z = Texts.gates(PULSE + bar(0, 1, "0 100") + "ship 500 50 0 6 6;ship 1001 50 300 6 6;");
        check.is("all day", z.window(0, 0, 6, 77, -1, 0), 1);
        check.is("all day", z.window(0, 0, 6, 77, 0, 0), 77);
        check.is("all day", z.window(0, 0, 6, 77, 0, 1), 1516);
        check.is("never", z.window(1, 0, 6, 77, -1, 0), 0);
        TideGates one = Texts.gates(PULSE + bar(0, 10, "0 100") + IN);
        check.is("one minute", one.window(0, 0, 6, 0, 5, 0), 310);
        check.is("one minute", one.window(0, 0, 6, 0, 5, 1), 310);
        // The distance to the bar does not matter, nor which way the ship goes.
        TideGates far = Texts.gates(PULSE + bar(0, 1, "0 100") + bar(7, 1, "3 100") + IN + OUT);
        check.is("second bar in", far.window(0, 1, 6, 0, 0, 0), 13);
        check.is("second bar out", far.window(1, 1, 6, 0, 0, 1), 22);
        check.is("first bar out", far.window(1, 0, 6, 0, 0, 1), 19);
    }

    private void windowsOfADay() {
        // The same by what it sinks: nothing, 100 always, 100 by 6 knots, more the less water there is below 1,245.
        String[] sinking = {"squat 0;ship 1000 50 245", "squat 100;ship 900 50 245", "squat speed*10+40;ship 900 50 245",
            "squat (1245-water)*3;ship 1000 50 245", "squat 100+(1345-water)*3/4-75;ship 900 50 245",
            "squat (water-1245)/2+18;ship 982 50 245", "ship 982 50 245", "squat draught/9;ship 900 50 245"};
        for (String ship : sinking) {
            windowsOfADay(Texts.gates("mean 0;wave 400 60 0;" + bar(0, 1, "0 100") + ship + " 6 6;"));
        }
        // It sinks in high water's minute, the 15th, alone: broken there.
        TideGates high = Texts.gates("mean 0;wave 400 60 0;squat water/1300*500;" + bar(0, 1, "0 100") + IN);
        check.is("two in each 60 minutes", high.window(0, 0, 6, 0, -1, 0), 48);
        check.is("ahead of it", high.window(0, 0, 6, 0, 0, 1), 13);
        check.is("behind it", high.window(0, 0, 6, 0, 1, 0), 16);
        check.is("behind it", high.window(0, 0, 6, 0, 1, 1), 19);
        // From the last of the 1,440 on it passes in minutes behind them, which count.
        TideGates two = Texts.gates(PULSE + bar(0, 2, "0 100") + IN);
        check.is("last start 1458", two.window(0, 0, 6, 19, 23, 1), 1458);
        check.is("last start 1458", two.window(0, 0, 6, 20, 23, 1), 1458);
    }

    private void windowsOfADay(TideGates x) {
        int[][] due = {
            // from, how many, first minute, last of the first, first of the last, last of the last
            {10, 24, 10, 19, 1390, 1399}, {11, 25, 11, 19, 1450, 1450}, {19, 25, 19, 19, 1450, 1458},
            {20, 24, 70, 79, 1450, 1459}, {21, 24, 70, 79, 1450, 1459}, {9, 24, 10, 19, 1390, 1399},
            {10000, 24, 10030, 10039, 11410, 11419}, {9991, 24, 10030, 10039, 11410, 11419},
            {9970, 24, 9970, 9979, 11350, 11359}, {9971, 25, 9971, 9979, 11410, 11410},
            {9979, 25, 9979, 9979, 11410, 11418}, {9980, 24, 10030, 10039, 11410, 11419},
        };
        for (int[] row : due) {
            check.is("how many from " + row[0], x.window(0, 0, 6, row[0], -1, 0), row[1]);
            check.is("first of the first from " + row[0], x.window(0, 0, 6, row[0], 0, 0), row[2]);
            check.is("last of the first from " + row[0], x.window(0, 0, 6, row[0], 0, 1), row[3]);
            check.is("first of the last from " + row[0], x.window(0, 0, 6, row[0], row[1] - 1, 0), row[4]);
            check.is("last of the last from " + row[0], x.window(0, 0, 6, row[0], row[1] - 1, 1), row[5]);
        }
    }

    private void windowsMissing() {
        check.says("NoSuchElementException: no such WAVE, BAR, SHIP, window, place (so below).");
        TideGates x = Texts.gates(PULSE + bar(0, 1, "0 100") + IN + "ship 1001 50 300 6 6;");
        for (int what = 0; what <= 1; what++) {
            int asked = what;
            check.refuses("no 25th", () -> x.window(0, 0, 6, 0, 24, asked), NoSuchElementException.class);
            check.refuses("no 25th", () -> x.joined(0, 6, 0, 24, asked), NoSuchElementException.class);
            check.refuses("no 26th", () -> x.window(0, 0, 6, 11, 25, asked), NoSuchElementException.class);
            check.refuses("none at all", () -> x.window(1, 0, 6, 0, 0, asked), NoSuchElementException.class);
            check.refuses("none at all", () -> x.joined(1, 6, 0, 0, asked), NoSuchElementException.class);
            check.refuses("-2", () -> x.window(0, 0, 6, 0, -2, asked), NoSuchElementException.class);
            check.refuses("-2", () -> x.joined(0, 6, 0, -2, asked), NoSuchElementException.class);
        }
        check.is("counted", x.status(0), 14);
    }

    // ---- joined

    private void joinedIn() {
        check.says("GOOD is a START, if all BARS can be passed.");
        // Bars from the 5th to the 6th and from the 11th to the 12th minute behind the START.
        String bars = bar(5, 1, "0 100") + bar(5, 1, "0 100");
        TideGates x = Texts.gates(PULSE + bars + IN);
        check.is("first", x.joined(0, 6, 0, 0, 0), 5);
        check.is("last", x.joined(0, 6, 0, 0, 1), 8);
        // With the second one's tide 6 later both let the same STARTS through; 7 later it lets none ahead of 6 through.
        TideGates y = Texts.gates(PULSE + bar(5, 1, "0 100") + bar(5, 1, "6 100") + IN);
        check.is("first", y.joined(0, 6, 0, 0, 0), 5);
        check.is("last", y.joined(0, 6, 0, 0, 1), 14);
        TideGates z = Texts.gates(PULSE + bar(5, 1, "0 100") + bar(5, 1, "7 100") + IN);
        check.is("first", z.joined(0, 6, 0, 0, 0), 6);
        check.is("last", z.joined(0, 6, 0, 0, 1), 14);
        // One minute alone, and none: the second one's tide 15 later, 16 later.
        TideGates one = Texts.gates(PULSE + bar(5, 1, "0 100") + bar(5, 1, "15 100") + IN);
        check.is("one minute", one.joined(0, 6, 0, 0, 0), 14);
        check.is("one minute", one.joined(0, 6, 0, 0, 1), 14);
        TideGates none = Texts.gates(PULSE + bar(5, 1, "0 100") + bar(5, 1, "16 100") + IN);
        check.is("none", none.joined(0, 6, 0, -1, 0), 0);
    }

    private void joinedOut() {
        // Out: the second bar at once, the first from the 6th to the 7th minute; how far that one is does not matter.
        TideGates x = Texts.gates(PULSE + bar(100, 1, "0 100") + bar(5, 1, "0 100") + OUT);
        check.is("first", x.joined(0, 6, 0, 0, 0), 10);
        check.is("last", x.joined(0, 6, 0, 0, 1), 13);
        TideGates y = Texts.gates(PULSE + bar(100, 1, "6 100") + bar(5, 1, "0 100") + OUT);
        check.is("first", y.joined(0, 6, 0, 0, 0), 10);
        check.is("last", y.joined(0, 6, 0, 0, 1), 19);
        TideGates z = Texts.gates(PULSE + bar(100, 1, "15 100") + bar(5, 1, "0 100") + OUT);
        check.is("first", z.joined(0, 6, 0, 0, 0), 19);
        check.is("last", z.joined(0, 6, 0, 0, 1), 19);
        check.is("none", Texts.gates(PULSE + bar(100, 1, "16 100") + bar(5, 1, "0 100") + OUT)
                .joined(0, 6, 0, -1, 0), 0);
    }

    private void joinedOfADay() {
        check.says("JOINED: likewise, but of STARTS that are GOOD.");
        TideGates x = Texts.gates(PULSE + bar(5, 1, "0 100") + bar(5, 1, "0 100") + IN);
        int[][] due = {{0, 24, 5, 8, 1385, 1388}, {5, 24, 5, 8, 1385, 1388}, {6, 25, 6, 8, 1445, 1445},
            {8, 25, 8, 8, 1445, 1447}, {9, 24, 65, 68, 1445, 1448}, {10, 24, 65, 68, 1445, 1448},
            {10000, 24, 10025, 10028, 11405, 11408}};
        for (int[] row : due) {
            check.is("how many from " + row[0], x.joined(0, 6, row[0], -1, 0), row[1]);
            check.is("first of the first from " + row[0], x.joined(0, 6, row[0], 0, 0), row[2]);
            check.is("last of the first from " + row[0], x.joined(0, 6, row[0], 0, 1), row[3]);
            check.is("first of the last from " + row[0], x.joined(0, 6, row[0], row[1] - 1, 0), row[4]);
            check.is("last of the last from " + row[0], x.joined(0, 6, row[0], row[1] - 1, 1), row[5]);
        }
    }

    private void joinedWithoutBars() {
        TideGates x = Texts.gates("mean 0;ship 2500 95 300 4 4;");
        for (int m : new int[] {0, 5, 10000}) {
            check.is("all are good", x.joined(0, 4, m, -1, 0), 1);
            check.is("all are good", x.joined(0, 4, m, 0, 0), m);
            check.is("all are good", x.joined(0, 4, m, 0, 1), m + 1439);
        }
    }

    // ---- least, deepest

    private void least() {
        check.says("The least LEFT in all MINUTES of a PASSAGE in which it passes BARS");
        // LEFT is the height less 100. On the bars from 5 to 6 and from 11 to 12 behind the START.
        TideGates x = Texts.gates(PULSE + bar(5, 1, "0 100") + bar(5, 1, "0 100") + IN + OUT);
        check.is("first minute on the first bar", x.least(0, 4, 6), 222);
        check.is("just both", x.least(0, 5, 6), 245);
        check.is("just both", x.least(0, 8, 6), 245);
        check.is("last minute on the last bar", x.least(0, 9, 6), 222);
        check.is("in between it is on none", x.least(0, 19, 6), -100 - 42);
        check.is("out, first minute", x.least(1, 9, 6), 222);
        check.is("out, just", x.least(1, 10, 6), 245);
        check.is("out, just", x.least(1, 13, 6), 245);
        check.is("out, last minute", x.least(1, 14, 6), 222);
        // The 45th is the lowest: from 34 on it is on the second bar then, from 37 on between the two (42, 43; 48, 49).
        check.is("in the 45th on the second bar", x.least(0, 34, 6), -500);
        check.is("between them", x.least(0, 37, 6), -490);
        check.is("from the last START on", x.least(0, 10000, 6), -100 - 400);
        check.is("the last START", x.least(1, 10000, 6), -100 - 397);
    }

    private void leastWithoutBars() {
        check.says("NO: there are no BARS.");
        TideGates x = Texts.gates("mean 0;ship 2500 95 300 4 4;");
        check.is("no bars", x.least(0, 0, 4), -1000000);
        check.is("no bars", x.least(0, 10000, 25), TideGates.NO);
        check.says("Told where a number below 0 may be one.");
        TideGates y = Texts.gates("mean 0;bar 0 100 1 0 100;ship 100 50 0 4 4;squat 1;");
        check.is("-1 is a number", y.least(0, 0, 4), -1);
    }

    private void deepest() {
        check.says("The greatest DRAUGHT (100 to 2,500, in place of its own) by which a START is GOOD; NONE: by none.");
        TideGates x = Texts.gates(PULSE + bar(5, 1, "0 100") + bar(5, 1, "0 100") + IN + OUT);
        check.is("its own", x.deepest(0, 5, 6), 1000);
        check.is("its own", x.deepest(0, 8, 6), 1000);
        check.is("less", x.deepest(0, 4, 6), 977);
        check.is("less", x.deepest(0, 9, 6), 977);
        check.is("more", x.deepest(0, 6, 6), 900 + 364 - 245);
        check.is("out", x.deepest(1, 10, 6), 1000);
        check.is("out", x.deepest(1, 14, 6), 977);
        check.is("its own stays", x.ship(0, 0), 1000);
        check.is("and is not asked", loaded(x, 100).deepest(0, 9, 6), 977);
        check.is("and is not asked", loaded(x, 2500).deepest(0, 9, 6), 977);
        // By what it sinks, too; the lowest water is in the first minute, in the last, at the first bar, at the second.
        TideGates y = Texts.gates("mean 0;wave 400 60 0;squat speed*10+40;bar 5 900 1 0 100;bar 5 900 1 0 100;"
                + "ship 200 50 245 6 6;ship 300 50 200 6 6;ship 2500 50 0 6 6;ship 2400 50 0 6 6;");
        check.is("first minute", y.deepest(0, 4, 6), 877);
        check.is("last minute", y.deepest(0, 9, 6), 877);
        check.is("both", y.deepest(0, 5, 6), 900);
        check.is("of each by its KEEP", y.deepest(1, 5, 6), 945);
        check.is("of each by its KEEP", y.deepest(2, 5, 6), 1145);
        check.is("of each by its KEEP", y.deepest(3, 9, 6), 1122);
        y.sound(0, 800);
        check.is("the first bar", y.deepest(0, 8, 6), 900 - 100 + (390 - 345));
        y.sound(0, 1000);
        check.is("the second bar", y.deepest(0, 8, 6), 900);
        y.sound(1, 800);
        check.is("the second bar", y.deepest(0, 8, 6), 800);
        // Asked behind a call that looked at low water, from the 43rd minute on.
        TideGates z = Texts.gates("mean 0;wave 400 60 0;squat 100;bar 0 900 1 0 100;ship 200 50 245 6 6;");
        check.is("windows", z.window(0, 0, 6, 43, -1, 0), 24);
        check.is("from high water on", z.deepest(0, 15, 6), 900 + 397 - 100 - 245);
    }

    private static TideGates loaded(TideGates x, int draught) {
        x.load(0, draught);
        return x;
    }

    private void deepestLimits() {
        // KEEP 50: DRAUGHT may be WATER less 50.
        TideGates x = Texts.gates("mean 0;squat 0;bar 0 2549 1 0 100;ship 1000 50 50 4 4;");
        check.is("2,499", x.deepest(0, 0, 4), 2499);
        x.sound(0, 2550);
        check.is("2,500", x.deepest(0, 0, 4), 2500);
        x.sound(0, 2551);
        check.is("2,500 at most", x.deepest(0, 0, 4), 2500);
        x.sound(0, 151);
        check.is("101", x.deepest(0, 0, 4), 101);
        x.sound(0, 150);
        check.is("100", x.deepest(0, 0, 4), 100);
        x.sound(0, 149);
        check.is("not 99", x.deepest(0, 0, 4), -1);
        x.surge(-300);
        check.is("dry", x.deepest(0, 0, 4), -1);
        TideGates none = Texts.gates("mean 0;ship 1000 50 300 4 4;");
        check.is("no bars", none.deepest(0, 0, 4), 2500);
    }

    private void deepestByFormula() {
        // In place of its own in the formula too.
        String text = "mean 0;bar 0 1400 1 0 100;ship 1000 80 100 4 20;squat ";
        check.is("a tenth more", Texts.gates(text + "draught/10;").deepest(0, 0, 10), 1182);
        check.is("its own draught is not asked", Texts.gates(text + "draught/1000*200;").deepest(0, 0, 10), 1100);
        check.is("by 700 alone", Texts.gates(text + "draught/701*9999;").deepest(0, 0, 10), 700);
        check.is("from 1,200 on alone", Texts.gates(text + "9999-draught/1200*9999;").deepest(0, 0, 10), 1300);
        check.is("100 alone", Texts.gates(text + "draught/101*9999;").deepest(0, 0, 10), 100);
        check.is("99 would do", Texts.gates(text + "draught/100*9999;").deepest(0, 0, 10), -1);
        check.is("from 2,500 on alone",
                Texts.gates("mean 0;bar 0 3000 1 0 100;ship 1000 80 100 4 20;squat 9999-draught/2500*9999;")
                        .deepest(0, 0, 10), 2500);
        check.is("other speeds than its own", Texts.gates(text + "speed*speed;").deepest(0, 0, 25), 1400 - 625 - 100);
        check.is("both bars", Texts.gates("mean 0;bar 0 1400 1 0 100;bar 0 1300 1 0 100;ship 1000 80 100 4 20;"
                + "squat (water-1300)*5+draught-draught/300*300;").deepest(0, 0, 10), deepestOfBoth());
    }

    /** By trying all: at the first bar it sinks 500 and the rest by 300, at the second one that rest alone. */
    private static int deepestOfBoth() {
        int deepest = -1;
        for (int draught = 100; draught <= 2500; draught++) {
            int rest = draught % 300;
            if (1400 - draught - 500 - rest >= 100 && 1300 - draught - rest >= 100) {
                deepest = draught;
            }
        }
        return deepest;
    }

    // ---- soonest

    private void soonestLimit() {
        check.says("the least MINUTE in which it ENDS, not above START and 1,000");
        // 399 or more from the 480th to the 520th of 2,000 minutes; it needs as much, and passes for a minute.
        TideGates x = Texts.gates("mean 0;wave 400 2000 0;squat 0;bar 0 900 1 0 100 lie;ship 1000 50 299 6 6;");
        check.is("at once", x.soonest(0, 480), 481);
        check.is("the last", x.soonest(0, 519), 520);
        check.is("too late, and the next is too far", x.soonest(0, 520), -1);
        check.is("1,001 later", x.soonest(0, 1480), -1);
        check.is("1,000 later", x.soonest(0, 1481), 2481);
        check.is("999 later", x.soonest(0, 1482), 2481);
        check.is("from 0 on", x.soonest(0, 0), 481);
        check.is("from the last START on", x.soonest(0, 10000), 10481);
        check.is("from 9,481 on", x.soonest(0, 9481), 10481);
        check.is("from 9,480 on", x.soonest(0, 9480), -1);
    }

    private void soonestLongWay() {
        // By 4 knots 300 and 30 for each of three, then 8 and 2.
        String bars = "bar 200 900 20 0 100;".repeat(3);
        check.is("just 1,000", Texts.gates("mean 0;" + bars + "bar 5 900 1 0 100;ship 100 50 0 4 4;").soonest(0, 7),
                1007);
        check.is("1,001", Texts.gates("mean 0;" + bars + "bar 6 900 1 0 100;ship 100 50 0 4 4;").soonest(0, 7), -1);
        check.is("1,001, faster", Texts.gates("mean 0;" + bars + "bar 6 900 1 0 100;ship 100 50 0 4 5;").soonest(0, 7),
                7 + 3 * (240 + 24) + 8 + 2);
        String six = "bar 200 900 20 0 100 lie;".repeat(6);
        check.is("far too long", Texts.gates("mean 0;" + six + "ship 100 50 0 4 4;").soonest(0, 7), -1);
        check.is("far too long, out", Texts.gates("mean 0;" + six + "ship 100 50 0 4 4 out;").soonest(0, 7), -1);
        check.is("by 25", Texts.gates("mean 0;" + six + "ship 100 50 0 4 25;squat 0;").soonest(0, 7), 7 + 6 * 53);
        check.is("by 25, out", Texts.gates("mean 0;" + six + "ship 100 50 0 4 25 out;squat 0;").soonest(0, 7),
                7 + 6 * 5 + 5 * 48);
        // The last bar is reached in 990 minutes; it needs the 10 that are left.
        check.is("just 1,000 by a length", Texts.gates("mean 0;" + bars + "bar 0 900 6 0 100;ship 100 50 0 4 4;")
                .soonest(0, 7), 7 + 990 + 9);
        check.is("1,002 by a length", Texts.gates("mean 0;" + bars + "bar 0 900 8 0 100;ship 100 50 0 4 4;")
                .soonest(0, 7), -1);
    }

    private int soonest(String first, String second, String ship, int start) {
        return Texts.gates(PULSE + bar(5, 1, first) + bar(5, 1, second) + ship).soonest(0, start);
    }

    private void soonestWaits() {
        check.says("waiting as long as it likes ahead of BARS where one can LIE");
        // Clear from the 10th to the 20th. In: it comes to the first in 5, from there to the second in 6 more.
        check.is("waits for the first", soonest("0 100 lie", "0 100", IN, 0), 17);
        check.is("can't", soonest("0 100", "0 100 lie", IN, 0), -1);
        check.is("can't", soonest("0 100", "0 100", IN, 4), -1);
        check.is("needs not", soonest("0 100", "0 100", IN, 5), 17);
        check.is("needs not", soonest("0 100 lie", "0 100 lie", IN, 5), 17);
        check.is("needs not", soonest("0 100", "0 100", IN, 8), 20);
        check.is("can't for the second", soonest("0 100", "0 100", IN, 9), -1);
        check.is("waits for the second", soonest("0 100", "0 100 lie", IN, 9), 71);
        check.is("or ahead of the first for both", soonest("0 100 lie", "0 100", IN, 9), 77);
        check.is("sooner of both", soonest("0 100 lie", "0 100 lie", IN, 9), 71);
        // The second one's tide is 8 later: it waits ahead of the first longer than that one asks for.
        check.is("waits longer", soonest("0 100 lie", "8 100", IN, 0), 19);
        check.is("or twice", soonest("0 100 lie", "8 100 lie", IN, 0), 19);
        check.is("from its edge on", soonest("0 100 lie", "15 100", IN, 0), 26);
        check.is("not at all", soonest("0 100 lie", "16 100", IN, 0), -1);
        check.is("but with lying", soonest("0 100 lie", "16 100 lie", IN, 0), 27);
    }

    private void soonestWaitsOut() {
        check.says("ahead of it one can LIE, whichever way one comes");
        // Out: the second bar at once, the first 5 behind it.
        check.is("waits between them", soonest("0 100 lie", "0 100", OUT, 19), 71);
        check.is("can't", soonest("0 100", "0 100 lie", OUT, 13), 20);
        check.is("waits ahead of the second instead", soonest("0 100", "0 100 lie", OUT, 14), 77);
        check.is("can't", soonest("0 100", "0 100", OUT, 14), -1);
        check.is("waits ahead of the last", soonest("0 100", "0 100 lie", OUT, 0), 17);
        check.is("too late for it", soonest("0 100 lie", "0 100", OUT, 20), -1);
        check.is("waits for it", soonest("0 100 lie", "0 100 lie", OUT, 20), 77);
        check.is("waits longer for the first", soonest("8 100", "0 100 lie", OUT, 0), 19);
    }

    private void soonestSpeeds() {
        check.says("with a SPEED of its own (from LEAST to MOST) for each BAR and the distance ahead of it");
        // It sinks too much on the first bar by more than 10 knots, on the second by none.
        String bars = "mean 0;bar 60 1000 10 0 100;bar 60 2000 10 0 100;";
        check.is("by 10, then by 20", Texts.gates(bars + "ship 900 95 0 5 20;").soonest(0, 0), 36 + 6 + 18 + 3);
        check.is("out: by 20, then by 10", Texts.gates(bars + "ship 900 95 0 5 20 out;").soonest(0, 0), 3 + 36 + 6);
        check.is("to its MOST", Texts.gates(bars + "ship 900 95 0 5 25;").soonest(0, 0), 36 + 6 + 15 + 3);
        check.is("to its MOST", Texts.gates(bars + "ship 900 95 0 5 9;").soonest(0, 0), 40 + 7 + 40 + 7);
        check.is("its LEAST just", Texts.gates(bars + "ship 900 95 0 10 12;").soonest(0, 0), 36 + 6 + 30 + 5);
        check.is("its LEAST not", Texts.gates(bars + "ship 900 95 0 11 12;").soonest(0, 0), -1);
        String other = "mean 0;bar 60 2000 10 0 100;bar 60 1000 10 0 100;";
        check.is("by 20, then by 10", Texts.gates(other + "ship 900 95 0 5 20;").soonest(0, 0), 18 + 3 + 36 + 6);
        check.is("out: by 10, then by 20", Texts.gates(other + "ship 900 95 0 5 20 out;").soonest(0, 0), 6 + 18 + 3);
        // Three distances: in they are ahead of their own bar, out that of the bar behind is ahead of a bar.
        String three = "mean 0;bar 10 2000 1 0 100;bar 30 2000 1 0 100;bar 60 2000 1 0 100;squat 0;";
        check.is("in", Texts.gates(three + "ship 900 95 0 6 6;").soonest(0, 0), 10 + 1 + 30 + 1 + 60 + 1);
        check.is("out", Texts.gates(three + "ship 900 95 0 6 6 out;").soonest(0, 0), 1 + 60 + 1 + 30 + 1);
        // How far the first bar is does not matter going out.
        check.is("from the sea", Texts.gates("mean 0;bar 200 1000 10 0 100;ship 900 95 0 5 20 out;").soonest(0, 0), 6);
    }

    private void soonestSlower() {
        // Needs 399: from the 480th on. 10 by 5 knots takes 12 minutes and 2 on the bar, by 6 knots 10 and 1.
        TideGates x = Texts.gates("mean 0;wave 400 2000 0;squat 0;bar 10 900 1 0 100;ship 1000 50 299 5 6;");
        check.is("neither", x.soonest(0, 467), -1);
        check.is("the slower alone", x.soonest(0, 468), 482);
        check.is("the slower alone", x.soonest(0, 469), 483);
        check.is("the faster is sooner", x.soonest(0, 470), 481);
        check.is("the faster is sooner", x.soonest(0, 506), 517);
        check.is("both to the 520th", x.soonest(0, 509), 520);
        check.is("neither", x.soonest(0, 510), -1);
        check.is("asked behind others", x.soonest(0, 490), 501);
        check.is("asked behind others", x.soonest(0, 467), -1);
        check.is("asked behind others", x.soonest(0, 490), 501);
        check.is("asked behind others", x.soonest(0, 468), 482);
        // Slow ahead of the first, so as not to come to the second too early.
        TideGates y = Texts.gates(PULSE + bar(10, 1, "6 100") + bar(0, 1, "9 100") + "ship 1000 50 245 5 6;");
        // By 6 on the first from 10 to 11 behind the START, by 5 from 12 to 14; on the second at once.
        check.is("by 5", y.soonest(0, 5), 5 + 14 + 1);
        check.is("by 6", y.soonest(0, 8), 8 + 11 + 1);
        check.is("neither", y.soonest(0, 4), -1);
    }

    private void soonestWithoutBars() {
        check.says("SOONEST; NONE: not at all.");
        TideGates x = Texts.gates("mean 0;ship 2500 95 300 4 4;ship 2500 95 300 4 4 out;");
        for (int start : new int[] {0, 1, 10000}) {
            check.is("no bars", x.soonest(0, start), start);
            check.is("no bars", x.soonest(1, start), start);
        }
        TideGates y = Texts.gates("mean 0;bar 0 900 1 0 100 lie;ship 2500 95 300 4 25;");
        check.is("never", y.soonest(0, 0), -1);
        TideGates z = Texts.gates("mean 0;bar 0 900 1 0 100 lie;ship 100 50 0 4 25;squat 0;");
        check.is("no distance", z.soonest(0, 0), 1);
    }
}
