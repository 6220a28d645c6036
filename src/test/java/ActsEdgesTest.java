import java.util.NoSuchElementException;

/** The sentences of the document that name edges of acts and of what is told (promises 1, 5 to 7, 10 to 14, 32). */
public final class ActsEdgesTest {
    private static final Class<NoSuchElementException> MISSING = NoSuchElementException.class;
    private static final Class<IllegalArgumentException> NUMBER = IllegalArgumentException.class;
    private static final Class<IllegalStateException> STATE = IllegalStateException.class;

    private static final String WORLD = "mean 500;wave 40 720 0;wave 10 60 5;bar 10 900 5 0 100;bar 20 950 5 30 90 lie;"
            + "ship 800 80 100 4 20;ship 820 70 50 5 15 out;ship 700 60 0 6 6;gap 16;surge -5;squat speed*3;";

    private final Check check = new Check("ActsEdgesTest");

    public static void main(String[] args) {
        ActsEdgesTest test = new ActsEdgesTest();
        test.newObject();
        test.sound();
        test.load();
        test.surge();
        test.acts();
        test.noActs();
        test.undoEach();
        test.undoNone();
        test.latestEight();
        test.ninthAct();
        test.undoneAndNew();
        test.undoneTexts();
        test.undoLeaves();
        test.asked();
        test.told();
        test.waves();
        test.bars();
        test.ships();
        test.print();
        test.manyCalls();
        test.check.end();
    }

    // ---- 1

    private void newObject() {
        check.says("At first: MEAN 0, no WAVES, BARS, SHIPS.");
        TideGates x = new TideGates();
        int[] due = {0, 0, 0, 0, 15, 0, 0, 0, 0};
        for (int what = 0; what < due.length; what++) {
            check.is("told " + what, x.told(what), due[what]);
        }
        check.is("height", x.height(0) + x.height(10000), 0);
        check.is("peak", x.peak(3, 2000, 0), 3);
        check.is("fault", x.fault(), -1);
        check.is("undo", x.undo(), -1);
        check.is("aground", x.aground(), 0);
        check.is("print", x.print(), 0);
        for (int what = 0; what <= 2; what++) {
            check.is("status", x.status(what), 0);
        }
        check.isTrue("two objects share nothing", shareNothing());
    }

    private static boolean shareNothing() {
        TideGates x = new TideGates();
        TideGates y = new TideGates();
        x.surge(7);
        x.feed(1, 2, 3, 4, 5);
        Texts.tell(x, "");
        return y.told(5) == 0 && y.told(7) == 0 && y.told(8) == 0 && y.fault() == -1;
    }

    // ---- 5 to 7

    private void sound() {
        check.says("DEPTH of a BAR becomes n (100 to 3,000): what it was.");
        TideGates x = Texts.gates(WORLD);
        int[] depths = {100, 101, 2999, 3000, 3000};
        int before = 950;
        for (int depth : depths) {
            check.is("what it was", x.sound(1, depth), before);
            check.is("depth", x.bar(1, 1), depth);
            check.is("the other one stays", x.bar(0, 1), 900);
            before = depth;
        }
        check.is("acts", x.told(8), 6);
        check.is("what the first was", Texts.gates(WORLD).sound(0, 777), 900);
        for (int depth : new int[] {99, 3001, 0, -100, Integer.MIN_VALUE, Integer.MAX_VALUE}) {
            check.refuses("depth " + depth, () -> x.sound(1, depth), NUMBER);
        }
        for (int bar : new int[] {-1, 2, 6, Integer.MIN_VALUE, Integer.MAX_VALUE}) {
            check.refuses("bar " + bar, () -> x.sound(bar, 500), MISSING);
            check.refuses("bar " + bar, () -> x.sound(bar, 99), MISSING);
        }
        check.is("depth stays", x.bar(1, 1), 3000);
        check.is("no act", x.told(8), 6);
    }

    private void load() {
        check.says("DRAUGHT of a SHIP becomes n (100 to 2,500): what it was.");
        TideGates x = Texts.gates(WORLD);
        int[] draughts = {100, 101, 2499, 2500, 2500};
        int before = 700;
        for (int draught : draughts) {
            check.is("what it was", x.load(2, draught), before);
            check.is("draught", x.ship(2, 0), draught);
            check.is("the others stay", x.ship(0, 0) + x.ship(1, 0), 1620);
            before = draught;
        }
        check.is("what the first was", Texts.gates(WORLD).load(0, 777), 800);
        check.is("what the second was", Texts.gates(WORLD).load(1, 777), 820);
        for (int draught : new int[] {99, 2501, 0, -100, Integer.MIN_VALUE, Integer.MAX_VALUE}) {
            check.refuses("draught " + draught, () -> x.load(2, draught), NUMBER);
        }
        for (int ship : new int[] {-1, 3, 6, Integer.MIN_VALUE, Integer.MAX_VALUE}) {
            check.refuses("ship " + ship, () -> x.load(ship, 500), MISSING);
            check.refuses("ship " + ship, () -> x.load(ship, 99), MISSING);
        }
        check.is("draught stays", x.ship(2, 0), 2500);
        check.is("acts", x.told(8), 6);
    }

    private void surge() {
        check.says("SURGE becomes n (-300 to 300): what it was.");
        TideGates x = Texts.gates(WORLD);
        int[] surges = {-300, -299, 0, 299, 300, 300};
        int before = -5;
        for (int n : surges) {
            check.is("what it was", x.surge(n), before);
            check.is("surge", x.told(5), n);
            check.is("height", x.height(0), 500 + n - 5);
            before = n;
        }
        for (int n : new int[] {-301, 301, Integer.MIN_VALUE, Integer.MAX_VALUE}) {
            check.refuses("surge " + n, () -> x.surge(n), NUMBER);
        }
        check.is("surge stays", x.told(5), 300);
        check.is("acts", x.told(8), 7);
    }

    // ---- acts

    private void acts() {
        check.says("ACTS: text() without a FAULT, sound(), load(), surge(), book(), cancel().");
        TideGates x = new TideGates();
        Texts.tell(x, WORLD);
        check.is("text", x.told(8), 1);
        x.sound(0, 901);
        check.is("sound", x.told(8), 2);
        x.load(0, 801);
        check.is("load", x.told(8), 3);
        x.surge(1);
        check.is("surge", x.told(8), 4);
        x.book(1, 300, 10);
        check.is("book", x.told(8), 5);
        x.cancel(1);
        check.is("cancel", x.told(8), 6);
        // One that tells what is so already is one, too.
        x.surge(1);
        check.is("the same surge", x.told(8), 7);
        x.sound(0, 901);
        check.is("the same depth", x.told(8), 8);
        check.is("one taken back", x.undo(), 7);
        check.is("is one no more", x.told(8), 7);
    }

    private void noActs() {
        TideGates x = Texts.gates(WORLD);
        x.feed(1, 2, 3, 4, 5);
        check.is("feed", x.told(8), 1);
        check.is("a text with a fault", x.text(20), -9);
        check.is("a text with a fault", x.told(8), 1);
        check.refuses("text", () -> x.text(1), NUMBER);
        check.refuses("sound", () -> x.sound(0, 99), NUMBER);
        check.refuses("load", () -> x.load(0, 99), NUMBER);
        check.refuses("surge", () -> x.surge(301), NUMBER);
        check.refuses("book", () -> x.book(0, 2001, 4), NUMBER);
        check.refuses("cancel", () -> x.cancel(0), STATE);
        check.is("calls that throw", x.told(8), 1);
        check.is("undo takes the text back", x.undo(), 0);
        check.is("undo takes the text back", x.told(1), 0);
    }

    private void undoEach() {
        check.says("undo() takes the latest one back that is not yet");
        TideGates x = new TideGates();
        String[] looks = new String[8];
        for (int i = 0; i < 8; i++) {
            looks[i] = Look.told(x);
            act(x, i);
            check.isTrue("act " + i + " can be seen", !Look.told(x).equals(looks[i]));
        }
        check.says("How many ACTS still can be taken back behind it; NONE: none could.");
        for (int i = 7; i >= 0; i--) {
            check.is("left behind it", x.undo(), i);
            check.is("told", x.told(8), i);
            check.isTrue("as ahead of act " + i, Look.told(x).equals(looks[i]));
        }
        check.is("none could", x.undo(), -1);
        check.isTrue("all stays", Look.told(x).equals(looks[0]));
    }

    private static void act(TideGates x, int i) {
        switch (i) {
            case 0:
                Texts.tell(x, WORLD);
                break;
            case 1:
                x.book(1, 300, 10);
                break;
            case 2:
                x.book(0, 0, 4);
                break;
            case 3:
                x.sound(1, 2000);
                break;
            case 4:
                x.load(2, 100);
                break;
            case 5:
                x.surge(-300);
                break;
            case 6:
                x.cancel(1);
                break;
            default:
                Texts.tell(x, "mean 3;wave 7 99 5;bar 1 101 2 3 51;ship 101 41 1 5 6 out;squat 9;gap 1;surge 8;");
                break;
        }
    }

    private void undoNone() {
        TideGates x = new TideGates();
        for (int i = 0; i < 3; i++) {
            check.is("none could", x.undo(), -1);
        }
        x.surge(5);
        check.is("one", x.undo(), 0);
        check.is("none could", x.undo(), -1);
        check.is("surge", x.told(5), 0);
        check.is("it is no refusal", x.status(0) + x.status(1) + x.status(2), 0);
    }

    private void latestEight() {
        check.says("of the latest 8");
        TideGates x = new TideGates();
        for (int i = 1; i <= 20; i++) {
            x.surge(i);
            check.is("acts behind " + i, x.told(8), Math.min(i, 8));
        }
        for (int i = 7; i >= 0; i--) {
            check.is("undo", x.undo(), i);
            check.is("surge", x.told(5), 12 + i);
        }
        check.is("the ninth from the end stays", x.undo(), -1);
        check.is("surge", x.told(5), 12);
    }

    private void ninthAct() {
        TideGates x = new TideGates();
        for (int i = 1; i <= 8; i++) {
            x.surge(i);
        }
        check.is("eight", x.told(8), 8);
        x.surge(9);
        check.is("nine are eight", x.told(8), 8);
        for (int i = 0; i < 8; i++) {
            x.undo();
        }
        check.is("the first of nine stays", x.told(5), 1);
        check.is("none", x.undo(), -1);
        TideGates y = new TideGates();
        for (int i = 1; i <= 8; i++) {
            y.surge(i);
        }
        for (int i = 0; i < 8; i++) {
            y.undo();
        }
        check.is("all eight of eight", y.told(5), 0);
        check.is("none", y.undo(), -1);
    }

    private void undoneAndNew() {
        TideGates x = new TideGates();
        for (int round = 0; round < 5; round++) {
            for (int i = 1; i <= 3; i++) {
                x.surge(10 * round + i);
            }
            x.undo();
            x.undo();
        }
        // One of each round is left: 1, 11, 21, 31, 41.
        check.is("five", x.told(8), 5);
        for (int i = 4; i >= 0; i--) {
            check.is("surge", x.told(5), 10 * i + 1);
            check.is("undo", x.undo(), i);
        }
        check.is("as at first", x.told(5), 0);
        // Taken back and done anew around the eight.
        TideGates y = new TideGates();
        for (int i = 1; i <= 30; i++) {
            y.surge(i);
            if (i % 3 == 0) {
                y.undo();
                y.surge(100 + i);
            }
        }
        check.is("eight", y.told(8), 8);
        int[] due = {130, 29, 28, 127, 26, 25, 124, 23, 22};
        for (int i = 0; i < 8; i++) {
            check.is("surge", y.told(5), due[i]);
            y.undo();
        }
        check.is("the last that stays", y.told(5), due[8]);
        check.is("none", y.undo(), -1);
    }

    private void undoneTexts() {
        TideGates x = Texts.gates(WORLD);
        x.book(1, 300, 10);
        x.surge(9);
        String before = Look.told(x);
        int tide = x.height(777);
        Texts.tell(x, "mean 3;wave 400 99 5;squat 9999;gap 0;");
        check.isTrue("another tide", x.height(777) != tide);
        check.is("undo", x.undo(), 3);
        check.isTrue("bars, ships, bookings, formula as before", Look.told(x).equals(before));
        check.is("the tide as before", x.height(777), tide);
        check.is("still close", x.close(0, 300, 10), 2);
        // Twice the same text, with acts between: each as it was.
        Texts.tell(x, WORLD);
        x.surge(100);
        Texts.tell(x, WORLD);
        check.is("surge as told", x.told(5), -5);
        x.undo();
        check.is("surge as changed", x.told(5), 100);
        x.undo();
        check.is("surge as told", x.told(5), -5);
        x.undo();
        check.isTrue("as before", Look.told(x).equals(before));
    }

    private void undoLeaves() {
        TideGates x = Texts.gates(WORLD);
        x.surge(9);
        check.refuses("a refusal", () -> x.height(-1), NUMBER);
        Texts.tell(x, "mean 1001;");
        x.feed(1, 2, 3, 4, 5);
        check.is("undo", x.undo(), 1);
        check.is("undo", x.undo(), 0);
        check.is("the tape stays", x.told(7), 20);
        check.is("the fault stays", x.fault(), 5);
        check.is("the refusal stays", x.status(1), 1);
        check.is("undo", x.undo(), -1);
        check.is("the tape stays", x.told(7), 20);
    }

    // ---- what is asked

    private void asked() {
        check.says("Asked, nothing stays changed.");
        TideGates x = setUp();
        TideGates twin = setUp();
        String before = Look.at(x);
        for (int ship = 0; ship < 3; ship++) {
            for (int bar = 0; bar < 2; bar++) {
                x.squat(ship, bar, 10, 5);
                x.left(ship, bar, 10, 5);
                x.fastest(ship, bar, 10);
                x.window(ship, bar, 5, 10, -1, 0);
                x.water(bar, 10);
                x.above(bar, 10, 10, 10);
            }
            x.joined(ship, 5, 10, -1, 0);
            x.lasts(ship, 5);
            x.least(ship, 10, 5);
            x.deepest(ship, 10, 25);
            x.soonest(ship, 10);
            x.close(ship, 300, 5);
        }
        x.peak(0, 100, 1);
        x.convoy(7, 5, 10);
        x.order(7, 5, 10, 2);
        x.aground();
        x.print();
        x.fault();
        x.status(1);
        check.isTrue("nothing changed", Look.at(x).equals(before));
        check.isTrue("nothing refused", Look.refused(x).equals("0 0 0"));
        check.is("asked again", x.deepest(1, 10, 25), twin.deepest(1, 10, 25));
        check.is("asked again", x.soonest(2, 10), twin.soonest(2, 10));
        check.is("asked again", x.order(7, 5, 10, 1), twin.order(7, 5, 10, 1));
        check.isTrue("nothing below changed", Look.throughAll(x).equals(Look.throughAll(twin)));
    }

    private static TideGates setUp() {
        TideGates x = Texts.gates(WORLD);
        x.book(1, 300, 10);
        x.sound(1, 910);
        Texts.feed(x, "mean 7;gap 3;ship 100 40 0 4 4;");
        return x;
    }

    private void told() {
        check.says("0 WAVES, 1 BARS, 2 SHIPS, 3 MEAN, 4 GAP, 5 SURGE, 6 SHIPS that are BOOKED, as bits, 7 bytes of the"
                + " TAPE, 8 ACTS that can be taken back.");
        TideGates x = setUp();
        int[] due = {2, 2, 3, 500, 16, -5, 2, 40, 3};
        for (int what = 0; what < due.length; what++) {
            check.is("told " + what, x.told(what), due[what]);
        }
        TideGates y = Texts.gates("mean 9;wave 1 60 0;wave 1 60 0;wave 1 60 0;bar 0 100 1 0 50;");
        check.is("waves, bars, ships", y.told(0) * 100 + y.told(1) * 10 + y.told(2), 310);
        for (int what : new int[] {-1, 9, Integer.MIN_VALUE, Integer.MAX_VALUE}) {
            check.refuses("told " + what, () -> x.told(what), NUMBER);
        }
        TideGates full = Texts.gates("mean 1000;" + "wave 1 60 0;".repeat(6) + "bar 0 100 1 0 50;".repeat(6)
                + "ship 100 40 0 4 4;".repeat(6) + "gap 240;surge -300;");
        int[] most = {6, 6, 6, 1000, 240, -300, 0, 0, 1};
        for (int what = 0; what < most.length; what++) {
            check.is("told " + what, full.told(what), most[what]);
        }
    }

    private void waves() {
        check.says("Of a WAVE: 0 AMPLITUDE, 1 PERIOD, 2 LAG.");
        TideGates x = Texts.gates("mean 5;wave 1 61 3;wave 400 2000 1999;");
        int[][] due = {{1, 61, 3}, {400, 2000, 1999}};
        for (int wave = 0; wave < 2; wave++) {
            for (int what = 0; what < 3; what++) {
                check.is("wave", x.wave(wave, what), due[wave][what]);
            }
        }
        for (int wave : new int[] {-1, 2, 6, Integer.MIN_VALUE, Integer.MAX_VALUE}) {
            check.refuses("wave " + wave, () -> x.wave(wave, 0), MISSING);
            check.refuses("wave " + wave, () -> x.wave(wave, 3), MISSING);
        }
        for (int what : new int[] {-1, 3, Integer.MIN_VALUE, Integer.MAX_VALUE}) {
            check.refuses("what " + what, () -> x.wave(0, what), NUMBER);
        }
    }

    private void bars() {
        check.says("Of a BAR: 0 how far it is, 1 DEPTH, 2 LENGTH, 3 DELAY, 4 FACTOR, 5 1 one can LIE ahead of it.");
        TideGates x = Texts.gates("mean 5;bar 7 901 2 3 51;bar 200 3000 20 300 150 lie;");
        int[][] due = {{7, 901, 2, 3, 51, 0}, {200, 3000, 20, 300, 150, 1}};
        for (int bar = 0; bar < 2; bar++) {
            for (int what = 0; what < 6; what++) {
                check.is("bar", x.bar(bar, what), due[bar][what]);
            }
        }
        for (int bar : new int[] {-1, 2, 6, Integer.MIN_VALUE, Integer.MAX_VALUE}) {
            check.refuses("bar " + bar, () -> x.bar(bar, 0), MISSING);
            check.refuses("bar " + bar, () -> x.bar(bar, 6), MISSING);
        }
        for (int what : new int[] {-1, 6, Integer.MIN_VALUE, Integer.MAX_VALUE}) {
            check.refuses("what " + what, () -> x.bar(0, what), NUMBER);
        }
    }

    private void ships() {
        check.says("Of a SHIP: 0 DRAUGHT, 1 BLOCK, 2 KEEP, 3 the LEAST SPEED, 4 the MOST, 5 1 it goes out, 6, 7 START,"
                + " SPEED if it is BOOKED (NONE).");
        TideGates x = Texts.gates("mean 5;ship 101 41 3 5 6;ship 2500 95 300 4 25 out;");
        x.book(1, 0, 25);
        int[][] due = {{101, 41, 3, 5, 6, 0, -1, -1}, {2500, 95, 300, 4, 25, 1, 0, 25}};
        for (int ship = 0; ship < 2; ship++) {
            for (int what = 0; what < 8; what++) {
                check.is("ship", x.ship(ship, what), due[ship][what]);
            }
        }
        for (int ship : new int[] {-1, 2, 6, Integer.MIN_VALUE, Integer.MAX_VALUE}) {
            check.refuses("ship " + ship, () -> x.ship(ship, 0), MISSING);
            check.refuses("ship " + ship, () -> x.ship(ship, 8), MISSING);
        }
        for (int what : new int[] {-1, 8, Integer.MIN_VALUE, Integer.MAX_VALUE}) {
            check.refuses("what " + what, () -> x.ship(0, what), NUMBER);
        }
    }

    private void print() {
        check.says("From 0 on, of BAR by BAR 31 times what there is, and DEPTH; of SHIP by SHIP 31 times, and DRAUGHT,"
                + " 31 times, and START (NONE: 1 less), 31 times, and SPEED likewise; 31 times, and SURGE.");
        check.is("nothing", new TideGates().print(), 0);
        TideGates surge = new TideGates();
        surge.surge(-300);
        check.is("a surge alone", surge.print(), -300);
        check.is("a bar alone", Texts.gates("mean 9;bar 0 100 1 0 50;").print(), 100 * 31);
        check.is("a ship alone", Texts.gates("mean 9;ship 100 40 0 4 4;surge 2;").print(),
                ((100 * 31 - 1) * 31 - 1) * 31 + 2);
        TideGates x = Texts.gates("mean 9;ship 100 40 0 4 4;surge 2;");
        x.book(0, 0, 4);
        check.is("booked", x.print(), ((100 * 31 + 0) * 31 + 4) * 31 + 2);
        TideGates y = Texts.gates("mean 9;bar 0 101 1 0 50;ship 103 40 0 4 4;bar 0 102 1 0 50;ship 104 40 0 4 4;");
        long bars = 101 * 31 + 102;
        long first = ((bars * 31 + 103) * 31 - 1) * 31 - 1;
        check.is("bars ahead of ships", y.print(), (((first * 31 + 104) * 31 - 1) * 31 - 1) * 31);
        // Longs that wrap round.
        TideGates full = Texts.gates("mean 9;" + "bar 0 3000 1 0 50;".repeat(6) + "ship 2500 40 0 4 4;".repeat(6)
                + "surge -300;");
        long sum = 0;
        for (int i = 0; i < 6; i++) {
            sum = sum * 31 + 3000;
        }
        for (int i = 0; i < 6; i++) {
            sum = ((sum * 31 + 2500) * 31 - 1) * 31 - 1;
        }
        check.is("full", full.print(), sum * 31 - 300);
    }

    private void manyCalls() {
        check.says("An object is used for at most 512 calls after it has been made");
        TideGates x = new TideGates();
        for (int i = 0; i < 127; i++) {
            check.is("surge", x.surge(i % 100), i == 0 ? 0 : (i - 1) % 100);
            check.refuses("height", () -> x.height(-1), NUMBER);
            check.is("height", x.height(i), i % 100);
            check.is("acts", x.told(8), Math.min(i + 1, 8));
        }
        check.is("the 509th call", x.status(1), 127);
        check.is("the 510th call", x.undo(), 7);
        check.is("the 511th call", x.feed(1, 2, 3, 4, 5), 20);
        check.is("the 512th call", x.print(), 25);
    }
}
