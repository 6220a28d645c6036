/** The sentences of the document that name edges of tides, waters, what ships sink (section 2, promises 15 to 21). */
public final class TideEdgesTest {
    private final Check check = new Check("TideEdgesTest");

    public static void main(String[] args) {
        TideEdgesTest test = new TideEdgesTest();
        test.modulo();
        test.turn();
        test.cutTurn();
        test.otherSign();
        test.cutPart();
        test.wholePeriods();
        test.cutEachWave();
        test.sumOfAll();
        test.barsTide();
        test.belowMinute0();
        test.cutAtBar();
        test.waterBelow0();
        test.minutes();
        test.peakCount();
        test.peakFirst();
        test.aboveCount();
        test.aboveOrMore();
        test.squatHeld();
        test.squatDivision();
        test.squatLimits();
        test.squatOrder();
        test.squatNames();
        test.squatWithout();
        test.leftBelow0();
        test.clear();
        test.fastestSpeeds();
        test.check.end();
    }

    private void heights(String text, int[]... due) {
        TideGates x = Texts.gates(text);
        for (int[] row : due) {
            check.is("height " + row[0] + " of " + text, x.height(row[0]), row[1]);
        }
    }

    // ---- waves

    private void modulo() {
        check.says("(m less LAG) modulo PERIOD (0 to PERIOD less 1)");
        // 60 minutes: 0, 42, 83 .. 400 in the 15th, .. 42 in the 29th, 0, -42 .. -42 in the 59th.
        heights("mean 0;wave 400 60 0;", new int[][] {{0, 0}, {1, 42}, {15, 400}, {29, 42}, {30, 0}, {31, -42},
            {45, -400}, {59, -42}, {60, 0}, {61, 42}, {9960, 0}, {9959, -42}, {10000, -345}});
        // Less than 0: -1 is 59, -60 is 0, -61 is 59 again.
        heights("mean 0;wave 400 60 1;", new int[][] {{0, -42}, {1, 0}, {2, 42}});
        heights("mean 0;wave 400 60 59;", new int[][] {{0, 42}, {58, -42}, {59, 0}});
        heights("mean 0;wave 400 60 60;", new int[][] {{0, 0}, {1, 42}});
        heights("mean 0;wave 400 60 61;", new int[][] {{0, -42}, {1, 0}});
        // -2000 is 40 of 60.
        heights("mean 0;wave 400 60 2000;", new int[][] {{0, -345}, {20, 0}, {35, 400}, {2000, 0}, {1999, -42}});
        heights("mean 0;wave 400 2000 2000;", new int[][] {{0, 0}, {500, 400}, {1500, -400}, {2500, 400}});
        heights("mean 0;wave 400 2000 1500;", new int[][] {{0, 400}, {1000, -400}, {2000, 400}});
    }

    private void turn() {
        check.says("times 3,600, by PERIOD, cut: x; from 1,800 on it is taken with x less 1,800 and the other sign.");
        // Of 2,000 minutes the 1,000th has x 1,800: 0; the one ahead 1,798: 1; the one behind 1,801: less than 1.
        heights("mean 0;wave 400 2000 0;", new int[][] {{998, 2}, {999, 1}, {1000, 0}, {1001, 0}, {1002, -2},
            {500, 400}, {1500, -400}, {1998, -2}, {1999, -1}, {2000, 0}});
    }

    private void cutTurn() {
        // 1.8 is 1, of which 400 makes less than 1; by 2 it would be 1.
        heights("mean 0;wave 400 2000 0;", new int[][] {{1, 0}, {2, 2}, {3, 3}, {2001, 0}, {1001, 0}});
    }

    private void otherSign() {
        TideGates x = Texts.gates("mean 0;wave 400 720 0;wave 1 1000 0;");
        TideGates half = Texts.gates("mean 0;wave 400 720 360;wave 1 1000 500;");
        for (int m = 0; m < 2000; m += 37) {
            check.is("half a period later", half.height(m), -x.height(m));
        }
    }

    private void cutPart() {
        check.says("4,000 times x times (1,800 less x), by (4,050,000 less x times (1,800 less x)), cut, with its"
                + " sign.");
        // x 10: 17.757.. is 17, of which 400 makes 6.8; uncut it would make 7.1.
        heights("mean 0;wave 400 2000 0;", new int[][] {{6, 6}, {1006, -6}});
        // x 900: 1,000 at most, in one minute alone.
        heights("mean 0;wave 400 2000 0;", new int[][] {{499, 399}, {500, 400}, {501, 399}, {480, 399}, {479, 398},
            {520, 399}, {521, 398}});
        heights("mean 0;wave 200 720 0;", new int[][] {{90, 141}, {180, 200}, {270, 141}, {450, -141}, {540, -200}});
    }

    private void wholePeriods() {
        check.says("Its PART: 4,000 times x times (1,800 less x), by (4,050,000 less x times (1,800 less x)), cut,");
        for (int period : new int[] {60, 61, 719, 1799, 1800, 1999, 2000}) {
            TideGates x = Texts.gates("mean 0;wave 400 " + period + " 7;");
            for (int m = 7; m < 7 + period; m++) {
                long turn = (m - 7) * 3600L / period;
                long half = turn % 1800;
                long part = 4000 * half * (1800 - half) / (4050000 - half * (1800 - half));
                long due = 400 * part / 1000;
                check.is("height " + m + " by " + period, x.height(m), turn < 1800 ? due : -due);
            }
        }
    }

    private void cutEachWave() {
        check.says("of all WAVES AMPLITUDE times PART, by 1,000, cut (towards 0) each");
        // 1 of 999 parts is 0 each, not 2 together; likewise below 0, where it is not -1 each.
        heights("mean 0;wave 1 2000 0;wave 1 2000 0;wave 1 2000 0;", new int[][] {{499, 0}, {500, 3}, {501, 0},
            {1499, 0}, {1500, -3}, {1501, 0}});
        heights("mean 10;wave 1 2000 0;wave 1 2000 0;wave 1 2000 0;", new int[][] {{499, 10}, {1499, 10}, {1500, 7}});
        heights("mean 0;wave 0 60 0;wave 0 60 7;", new int[][] {{15, 0}, {45, 0}});
    }

    private void sumOfAll() {
        check.says("HEIGHT in a MINUTE: MEAN, and SURGE, and of all WAVES");
        heights("mean 1000;surge 300;", new int[][] {{0, 1300}, {10000, 1300}});
        heights("mean 0;surge -300;", new int[][] {{0, -300}, {10000, -300}});
        heights("mean 0;", new int[][] {{0, 0}, {10000, 0}});
        heights("mean 1000;surge 300;" + "wave 400 60 0;".repeat(6), new int[][] {{15, 3700}, {45, -1100}, {0, 1300}});
        heights("mean 0;surge -300;" + "wave 400 60 0;".repeat(6), new int[][] {{15, 2100}, {45, -2700}});
        heights("mean 7;wave 400 60 0;wave 300 60 15;wave 200 60 30;", new int[][] {{15, 407 - 200},
            {30, 7 + 300}, {45, 7 - 400 + 200}});
        TideGates x = new TideGates();
        check.is("ahead of any text", x.height(0), 0);
        x.surge(-300);
        check.is("a surge alone", x.height(10000), -300);
    }

    // ---- bars

    private void barsTide() {
        check.says("HEIGHT at a BAR in a MINUTE m: HEIGHT in m less DELAY, times FACTOR, by 100, cut (towards 0).");
        TideGates x = Texts.gates("mean 100;surge 20;wave 400 60 0;bar 0 1000 1 0 100;bar 0 1000 1 15 100;"
                + "bar 0 1000 1 300 50;bar 0 1000 1 299 150;");
        check.is("at once", x.water(0, 15), 1520);
        check.is("15 later", x.water(1, 15), 1120);
        check.is("15 later", x.water(1, 30), 1520);
        check.is("300 later, half of all", x.water(2, 15), 1260);
        check.is("299 later, half as much again", x.water(3, 14), 1780);
        check.is("299 later, half as much again", x.water(3, 15), 1000 + (120 + 397) * 150 / 100);
    }

    private void belowMinute0() {
        check.says("times MINUTES (whole numbers, below 0 too)");
        // Minute 0 less 1 is the 59th of 60; less 300 the 1,700th of 2,000, less 299 the 1,701st.
        TideGates x = Texts.gates("mean 0;wave 400 60 0;bar 0 1000 1 1 100;bar 0 1000 1 60 100;bar 0 1000 1 61 100;"
                + "bar 0 1000 1 255 100;");
        check.is("-1", x.water(0, 0), 958);
        check.is("-60", x.water(1, 0), 1000);
        check.is("-61", x.water(2, 0), 958);
        check.is("-255", x.water(3, 0), 1000 - 400);
        TideGates y = Texts.gates("mean 0;wave 400 2000 200;bar 0 1000 1 300 100;");
        check.is("-300 less 200", y.water(0, 0), 600);
        check.is("and later", y.water(0, 1000), 1400);
    }

    private void cutAtBar() {
        int[][] due = {{-3, 50, 99}, {-3, 150, 96}, {-1, 50, 100}, {-1, 99, 100}, {-1, 100, 99}, {-1, 150, 99},
            {3, 50, 101}, {1, 99, 100}, {1, 101, 101}, {-7, 55, 97}, {7, 55, 103}, {0, 150, 100}};
        for (int[] row : due) {
            TideGates x = Texts.gates("mean 0;bar 0 100 1 0 " + row[1] + ";");
            x.surge(row[0]);
            check.is(row[0] + " times " + row[1] + " by 100", x.water(0, 0), row[2]);
        }
    }

    private void waterBelow0() {
        check.says("WATER: DEPTH and that.");
        TideGates x = Texts.gates("mean 0;surge -300;" + "wave 400 60 0;".repeat(6) + "bar 0 100 1 0 150;"
                + "bar 0 3000 1 0 150;ship 100 40 0 4 25;squat 0-water;");
        check.is("all dry", x.water(0, 45), 100 - 4050);
        check.is("at most", x.water(1, 15), 3000 + 3150);
        check.is("in a formula", x.squat(0, 0, 45, 4), 3950);
        check.is("left", x.left(0, 0, 45, 4), -3950 - 100 - 3950);
        check.is("above", x.above(0, -3950, 0, 60), 60);
        check.is("above", x.above(0, -3949, 0, 60), 59);
    }

    // ---- minutes asked

    private void minutes() {
        check.says("HEIGHT in a MINUTE (0 to 10,000; so below, where a MINUTE or a START is asked).");
        TideGates x = Texts.gates("mean 0;wave 400 2000 0;wave 400 60 0;bar 0 1000 1 0 100;ship 100 40 0 4 4;");
        check.is("the first", x.height(0), 0);
        check.is("the last", x.height(10000), -345);
        check.is("the last but one", x.height(9999), -1 - 322);
        check.refuses("ahead", () -> x.height(-1), IllegalArgumentException.class);
        check.refuses("behind", () -> x.height(10001), IllegalArgumentException.class);
        check.says("WATER at a BAR in a MINUTE.");
        check.is("water, the first", x.water(0, 0), 1000);
        check.is("water, the last", x.water(0, 10000), 655);
        check.says("LEFT likewise.");
        check.is("left, the first", x.left(0, 0, 0, 4), 1000 - 100 - 6);
        check.is("left, the last", x.left(0, 0, 10000, 4), 655 - 100 - 6);
        for (int m : new int[] {-1, 10001, Integer.MIN_VALUE, Integer.MAX_VALUE}) {
            check.refuses("water " + m, () -> x.water(0, m), IllegalArgumentException.class);
            check.refuses("left " + m, () -> x.left(0, 0, m, 4), IllegalArgumentException.class);
        }
        // It passes the bar until the 10,002nd: 2 of the one wave, -380 of the other.
        check.is("least, the last", x.least(0, 10000, 4), 1000 + 2 - 380 - 106);
        // What it takes from the last START on is behind 10,000, and told all the same.
        check.is("soonest, the last", x.soonest(0, 10000), 10002);
        check.is("window, the last", x.window(0, 0, 4, 10000, 0, 1), 11439);
    }

    private void peakCount() {
        check.says("The first of n MINUTES (1 to 2,000) from one on in which HEIGHT is greatest (what 0), least (1).");
        TideGates x = Texts.gates("mean 0;wave 400 2000 0;");
        check.is("one alone", x.peak(100, 1, 0), 100);
        check.is("one alone", x.peak(100, 1, 1), 100);
        check.is("two, rising", x.peak(2, 2, 0), 3);
        check.is("two, rising", x.peak(2, 2, 1), 2);
        // The 500th is the only one with 400: it is the last of n, then one behind them.
        check.is("the last of n", x.peak(0, 501, 0), 500);
        check.is("one fewer", x.peak(0, 500, 0), 480);
        check.is("the last of n", x.peak(1000, 501, 1), 1500);
        check.is("one fewer", x.peak(1000, 500, 1), 1480);
        check.is("2,000, the last one of them", x.peak(501, 2000, 0), 2500);
        check.is("1,999, without it", x.peak(501, 1999, 0), 501);
        check.is("2,000, the last one of them", x.peak(1501, 2000, 1), 3500);
        check.is("1,999, without it", x.peak(1501, 1999, 1), 1501);
        check.is("behind 10,000", x.peak(10000, 2000, 0), 10500);
        check.is("behind 10,000", x.peak(10000, 2000, 1), 11500);
        check.is("the last of all", x.peak(10000, 1, 0), 10000);
        for (int n : new int[] {0, -1, 2001, Integer.MIN_VALUE, Integer.MAX_VALUE}) {
            check.refuses("n " + n, () -> x.peak(0, n, 0), IllegalArgumentException.class);
        }
        for (int what : new int[] {-1, 2}) {
            check.refuses("what " + what, () -> x.peak(0, 1, what), IllegalArgumentException.class);
        }
    }

    private void peakFirst() {
        TideGates x = Texts.gates("mean 0;wave 400 60 0;");
        check.is("first of several", x.peak(0, 2000, 0), 15);
        check.is("first of several", x.peak(15, 2000, 0), 15);
        check.is("first of several", x.peak(16, 2000, 0), 75);
        check.is("first of several", x.peak(46, 2000, 1), 105);
        check.is("both ends alike", x.peak(14, 3, 1), 14);
        check.is("both ends alike", x.peak(44, 3, 0), 44);
        TideGates flat = Texts.gates("mean 5;");
        check.is("all alike", flat.peak(77, 2000, 0), 77);
        check.is("all alike", flat.peak(77, 2000, 1), 77);
        // All below 0.
        TideGates low = Texts.gates("mean 0;surge -300;wave 200 60 0;");
        check.is("greatest below 0", low.peak(0, 60, 0), 15);
        check.is("least below 0", low.peak(0, 60, 1), 45);
    }

    private void aboveCount() {
        check.says("In how many of n MINUTES (0 to 2,000) from one on WATER at a BAR is so much (any number) or more.");
        TideGates x = Texts.gates("mean 0;wave 400 60 0;bar 0 1000 1 0 100;");
        check.is("none", x.above(0, 1400, 15, 0), 0);
        check.is("one", x.above(0, 1400, 15, 1), 1);
        check.is("the last of n", x.above(0, 1400, 0, 16), 1);
        check.is("one fewer", x.above(0, 1400, 0, 15), 0);
        check.is("the first of n", x.above(0, 1400, 15, 60), 1);
        check.is("one later", x.above(0, 1400, 16, 59), 0);
        check.is("2,000", x.above(0, 0, 0, 2000), 2000);
        check.is("2,000 from the last on", x.above(0, 0, 10000, 2000), 2000);
        check.is("behind 10,000", x.above(0, 1400, 10000, 36), 1);
        check.is("behind 10,000", x.above(0, 1400, 10000, 35), 0);
        check.is("least number", x.above(0, Integer.MIN_VALUE, 0, 2000), 2000);
        check.is("greatest number", x.above(0, Integer.MAX_VALUE, 0, 2000), 0);
        for (int n : new int[] {-1, 2001, Integer.MIN_VALUE, Integer.MAX_VALUE}) {
            check.refuses("n " + n, () -> x.above(0, 0, 0, n), IllegalArgumentException.class);
        }
    }

    private void aboveOrMore() {
        TideGates x = Texts.gates("mean 0;wave 400 60 0;bar 0 1000 1 0 100;");
        check.is("so much", x.above(0, 1345, 0, 60), 11);
        check.is("one more", x.above(0, 1346, 0, 60), 9);
        check.is("so much", x.above(0, 1000, 0, 60), 31);
        check.is("so much below", x.above(0, 655, 0, 60), 60 - 9);
        check.is("all", x.above(0, 600, 0, 60), 60);
        check.is("all but one", x.above(0, 601, 0, 60), 59);
    }

    // ---- formulas

    /** BLOCK 60, DRAUGHT 700, WATER 820, by 10 knots. */
    private void formula(String formula, int due) {
        TideGates x = Texts.gates("mean 20;bar 0 800 1 0 100;ship 700 60 0 4 25;squat " + formula + ";");
        check.is("squat " + formula, x.squat(0, 0, 0, 10), due);
        check.is("left by " + formula, x.left(0, 0, 0, 10), 120 - due);
    }

    private void squatHeld() {
        check.says("each sum, difference, product held to 1,000,000,000 below and above 0");
        String most = "1000*1000*1000";
        // Just so much is not held; one more is.
        formula(most + "-1000*1000*999-1000*999-999", 1);
        formula("(" + most + "+1)-1000*1000*999-1000*999-999", 1);
        formula("(" + most + "-1)-1000*1000*999-1000*999-990", 9);
        formula("0-" + most + "+1000*1000*999+1000*999+1002", 2);
        formula("0-" + most + "-1+1000*1000*999+1000*999+1002", 2);
        formula("0-" + most + "+1+1000*1000*999+1000*999+1002", 3);
        // Sums.
        formula("(" + most + "+1000*1000)/1000/1000", 1000);
        formula("(0-" + most + "+(0-1000*1000))/1000/1000+2000", 1000);
        // Differences.
        formula("(" + most + "-(0-1000*1000))/1000/1000", 1000);
        formula("(0-" + most + "-1000*1000)/1000/1000+2000", 1000);
        // Products.
        formula("1000*1000*1001/1000/1000", 1000);
        formula("(0-1000)*1000*1001/1000/1000+2000", 1000);
        formula("(0-1000)*1000*(0-1001)/1000/1000", 1000);
        formula("1000*1000*999/1000/1000", 999);
        // The greatest times the greatest are longs, not ints.
        formula("(" + most + ")*(" + most + ")/1000/1000", 1000);
        formula("(0-" + most + ")*(" + most + ")/1000/1000+2000", 1000);
        formula("9999*9999*9999*9999*9999/9999/9999", 10);
        // Each one is held, not the last alone.
        formula(most + "*9*9-" + most + "*8+5", 5);
        formula("9999*9999*9999-9999*9999*9999+5", 5);
    }

    private void squatDivision() {
        check.says("\"/\" cut towards 0, by 0: 0");
        formula("7/2", 3);
        formula("8/2", 4);
        formula("(0-7)/2+10", 7);
        formula("7/(0-2)+10", 7);
        formula("(0-7)/(0-2)", 3);
        formula("(0-8)/2+10", 6);
        formula("(0-1)/2+10", 10);
        formula("1/2", 0);
        formula("7/0", 0);
        formula("7/0+3", 3);
        formula("(0-7)/0+3", 3);
        formula("0/0+4", 4);
        formula("5/(speed-10)+6", 6);
        formula("7/0*5+1", 1);
        formula("100/(0/5)+2", 2);
        formula("9+water/(draught-700)", 9);
        formula("1000*1000*1000/(0-1)/1000/1000+1001", 1);
    }

    private void squatLimits() {
        check.says("0 at least, 9,999 at most");
        formula("0", 0);
        formula("1-1", 0);
        formula("1-2", 0);
        formula("2-1", 1);
        formula("0-1000*1000*1000", 0);
        formula("9998", 9998);
        formula("9999", 9999);
        formula("9998+1", 9999);
        formula("9999+1", 9999);
        formula("9999*9999*9999", 9999);
        // Within it is held to neither.
        formula("(1-2)*(1-5)", 4);
        formula("9999*2-1-9999", 9998);
        formula("1-9999+9999", 1);
    }

    private void squatOrder() {
        formula("2+3*4", 14);
        formula("2*3+4", 10);
        formula("(2+3)*4", 20);
        formula("20-5-3", 12);
        formula("20-(5-3)", 18);
        formula("100/10/5", 2);
        formula("100/(10/5)", 50);
        formula("7/2*2", 6);
        formula("2*7/2", 7);
        formula("20-6/4*3+1", 18);
        formula("((((5))))-((((3))))", 2);
        formula("2*(3+4*(5-(6-(1+1))))-1", 13);
    }

    private void squatNames() {
        check.says("| \"speed\" | \"block\" | \"draught\" | \"water\"");
        formula("speed", 10);
        formula("block", 60);
        formula("draught", 700);
        formula("water", 820);
        formula("water-draught-block-speed", 50);
        TideGates x = Texts.gates("mean 0;wave 400 60 0;bar 0 1000 1 0 100;bar 0 500 1 15 50;ship 700 60 0 4 25;"
                + "ship 650 61 0 4 25;squat water+draught+block+speed;");
        check.is("of this ship, bar, minute, speed", x.squat(0, 0, 15, 4), 1400 + 700 + 60 + 4);
        check.is("of this ship, bar, minute, speed", x.squat(1, 1, 30, 25), 700 + 650 + 61 + 25);
        x.load(1, 651);
        x.sound(1, 502);
        x.surge(2);
        check.is("as it is now", x.squat(1, 1, 30, 25), 502 + 201 + 651 + 61 + 25);
    }

    private void squatWithout() {
        check.says("without \"squat\": BLOCK times SPEED times SPEED, by 100, cut");
        int[][] due = {{40, 4, 6}, {95, 25, 593}, {80, 10, 80}, {50, 4, 8}, {99 - 4, 4, 15}, {41, 5, 10}, {59, 13, 99}};
        for (int[] row : due) {
            TideGates x = Texts.gates("mean 0;bar 0 100 1 0 50;ship 100 " + row[0] + " 0 4 4;");
            check.is(row[0] + " by " + row[1], x.squat(0, 0, 0, row[1]), row[2]);
        }
        check.says("SQUAT of a SHIP at a BAR in a MINUTE by a SPEED (4 to 25; so below).");
        TideGates x = Texts.gates("mean 0;bar 0 100 1 0 50;ship 100 95 0 10 12;");
        for (int speed : new int[] {3, 26, 0, -4, Integer.MIN_VALUE, Integer.MAX_VALUE}) {
            check.refuses("speed " + speed, () -> x.squat(0, 0, 0, speed), IllegalArgumentException.class);
            check.refuses("speed " + speed, () -> x.left(0, 0, 0, speed), IllegalArgumentException.class);
            check.refuses("speed " + speed, () -> x.lasts(0, speed), IllegalArgumentException.class);
        }
    }

    private void leftBelow0() {
        check.says("LEFT: WATER less DRAUGHT less SQUAT.");
        TideGates x = Texts.gates("mean 0;surge -300;bar 0 100 1 0 150;ship 2500 95 0 4 4;squat 9999;");
        check.is("least of all", x.left(0, 0, 0, 4), 100 - 450 - 2500 - 9999);
        TideGates y = Texts.gates("mean 1000;surge 300;bar 0 3000 1 0 150;ship 100 40 0 4 4;squat 0;");
        check.is("most", y.left(0, 0, 0, 4), 3000 + 1950 - 100);
        TideGates z = Texts.gates("mean 0;bar 0 1000 1 0 100;bar 0 1100 1 0 100;bar 0 1200 1 0 100;ship 700 50 0 4 25;"
                + "ship 720 60 10 5 24;ship 740 70 20 6 23;");
        for (int ship = 0; ship < 3; ship++) {
            for (int bar = 0; bar < 3; bar++) {
                check.is("of this ship at this bar", z.left(ship, bar, 0, 10),
                        1000 + 100 * bar - 700 - 20 * ship - 50 - 10 * ship);
            }
        }
    }

    private void clear() {
        check.says("CLEAR: LEFT is KEEP or more.");
        // LEFT is 300 less 3 times the speed.
        String text = "mean 0;bar 0 1000 1 0 100;squat speed*3;ship 700 50 ";
        check.is("just KEEP", Texts.gates(text + "240 20 20;").fastest(0, 0, 0), 20);
        check.is("1 less", Texts.gates(text + "241 20 20;").fastest(0, 0, 0), -1);
        check.is("1 more", Texts.gates(text + "239 20 20;").fastest(0, 0, 0), 20);
        check.is("KEEP 300", Texts.gates(text + "300 4 4;").fastest(0, 0, 0), -1);
        String afloat = "mean 0;bar 0 1000 1 0 100;squat 0;ship ";
        check.is("just afloat", Texts.gates(afloat + "1000 50 0 4 4;").fastest(0, 0, 0), 4);
        check.is("just not", Texts.gates(afloat + "1001 50 0 4 4;").fastest(0, 0, 0), -1);
        check.is("300 below it", Texts.gates(afloat + "700 50 300 4 4;").fastest(0, 0, 0), 4);
        check.is("299 below it", Texts.gates(afloat + "701 50 300 4 4;").fastest(0, 0, 0), -1);
    }

    private void fastestSpeeds() {
        check.says("The greatest SPEED (its LEAST to its MOST) by which a SHIP is CLEAR at a BAR in a MINUTE;"
                + " NONE: by none.");
        // LEFT is 300 less 10 times the speed: KEEP 100 holds up to 20, 200 up to 10.
        String text = "mean 0;bar 0 1000 1 0 100;squat speed*10;ship 700 50 ";
        check.is("its MOST", Texts.gates(text + "100 4 19;").fastest(0, 0, 0), 19);
        check.is("its MOST, just", Texts.gates(text + "100 4 20;").fastest(0, 0, 0), 20);
        check.is("below its MOST", Texts.gates(text + "100 4 21;").fastest(0, 0, 0), 20);
        check.is("its LEAST, just", Texts.gates(text + "100 20 25;").fastest(0, 0, 0), 20);
        check.is("not below its LEAST", Texts.gates(text + "100 21 25;").fastest(0, 0, 0), -1);
        check.is("4", Texts.gates(text + "260 4 25;").fastest(0, 0, 0), 4);
        check.is("not 3", Texts.gates(text + "261 4 25;").fastest(0, 0, 0), -1);
        check.is("25", Texts.gates(text + "50 4 25;").fastest(0, 0, 0), 25);
        check.is("one speed", Texts.gates(text + "200 10 10;").fastest(0, 0, 0), 10);
        check.is("one speed", Texts.gates(text + "200 11 11;").fastest(0, 0, 0), -1);
        // Slower is worse here, or only some speeds are fine: the greatest counts.
        String other = "mean 0;bar 0 1000 1 0 100;ship 700 50 100 4 25;squat ";
        check.is("only the fastest", Texts.gates(other + "(25-speed)*300;").fastest(0, 0, 0), 25);
        check.is("none in between", Texts.gates(other + "(speed-5)*(speed-5)*300;").fastest(0, 0, 0), 5);
        check.is("13 to 24 alone not", Texts.gates(other + "speed/13*(25-speed)*300;").fastest(0, 0, 0), 25);
        // Of each ship by its own draught, KEEP and speeds, at each bar by its own depth.
        TideGates y = Texts.gates("mean 0;bar 0 1000 1 0 100;bar 0 950 1 0 100;bar 0 1050 1 0 100;squat speed*10;"
                + "ship 700 50 100 4 25;ship 720 50 130 5 24;ship 740 50 110 6 23;");
        int[][] due = {{20, 15, 25}, {15, 10, 20}, {15, 10, 20}};
        for (int ship = 0; ship < 3; ship++) {
            for (int bar = 0; bar < 3; bar++) {
                check.is("ship " + ship + " at bar " + bar, y.fastest(ship, bar, 0), due[ship][bar]);
            }
        }
        // In its minute alone, not while it would pass.
        TideGates x = Texts.gates("mean 0;wave 400 60 0;bar 0 900 20 0 100;ship 1000 50 300 4 4;squat 0;");
        check.is("in the 15th alone", x.fastest(0, 0, 15), 4);
        check.is("not in the 16th", x.fastest(0, 0, 16), -1);
        check.is("by minute, the last", x.fastest(0, 0, 10000), -1);
        check.is("by minute, behind", x.fastest(0, 0, 9975), 4);
    }
}
