import java.util.NoSuchElementException;

/** Each promise of the document by itself: ordinary inputs, the edges that it names, wrong inputs. */
public final class PromisesTest {
    private static final Class<NoSuchElementException> MISSING = NoSuchElementException.class;
    private static final Class<IllegalArgumentException> NUMBER = IllegalArgumentException.class;
    private static final Class<IllegalStateException> STATE = IllegalStateException.class;

    /** One bar with 1400 of water all day; by 10 knots a ship comes to it in 6 minutes, is on it for 3. */
    private static final String STILL = "mean 500;bar 10 900 5 0 100;ship 1000 80 100 4 20;";
    /** 200 up and down in 720 minutes; one bar on which a ship is for 1 minute by 6 knots and more. */
    private static final String WAVING = "mean 500;wave 200 720 0;bar 0 500 1 0 100;ship 700 80 50 4 20;";
    /** Three bars 10, 20, 0 apart, the second one's tide later and half as much; ships in and out. */
    private static final String CHANNEL = "mean 300;wave 200 720 0;bar 10 900 5 0 100;bar 20 850 10 60 50 lie;"
            + "bar 0 1000 1 300 150;ship 900 70 50 5 15;ship 1000 60 0 4 25 out;ship 100 40 0 8 8;";

    private final Check check = new Check("PromisesTest");

    public static void main(String[] args) {
        PromisesTest test = new PromisesTest();
        test.newObject();
        test.tape();
        test.text();
        test.cutTexts();
        test.faults();
        test.faultPlaces();
        test.sound();
        test.load();
        test.surge();
        test.book();
        test.cancel();
        test.undo();
        test.told();
        test.wave();
        test.bar();
        test.ship();
        test.height();
        test.peak();
        test.water();
        test.above();
        test.squat();
        test.formulas();
        test.left();
        test.fastest();
        test.window();
        test.joined();
        test.lasts();
        test.least();
        test.deepest();
        test.soonest();
        test.convoy();
        test.longestConvoy();
        test.order();
        test.close();
        test.aground();
        test.print();
        test.status();
        test.firstException();
        test.check.end();
    }

    private static TideGates gates(String text) {
        return Texts.gates(text);
    }

    // 1
    private void newObject() {
        TideGates x = new TideGates();
        int[] due = {0, 0, 0, 0, 15, 0, 0, 0, 0};
        for (int what = 0; what < due.length; what++) {
            check.is("new told " + what, x.told(what), due[what]);
        }
        check.is("new height", x.height(777), 0);
        check.is("new print", x.print(), 0);
        check.is("new aground", x.aground(), 0);
        check.is("new undo", x.undo(), -1);
        check.refuses("new bar", () -> x.bar(0, 1), MISSING);
        check.refuses("new ship", () -> x.ship(0, 0), MISSING);
        check.refuses("new wave", () -> x.wave(0, 0), MISSING);
        check.refuses("new convoy", () -> x.convoy(1, 10, 0), NUMBER);
    }

    // 2
    private void tape() {
        TideGates x = new TideGates();
        for (int i = 1; i <= 30; i++) {
            check.is("feed " + i, x.feed(i, 0, -1, 5, 6), 20 * i);
        }
        check.is("feed 31", x.feed(1, 2, 3, 4, 5), -1);
        check.is("a full tape", x.told(7), 600);
        check.refuses("more than the tape has", () -> x.text(601), NUMBER);
        check.is("the tape stays", x.told(7), 600);
        check.is("highest byte first", Texts.tell(new TideGates(), "mean 7;"), 0);
        // Twenty bytes in one go, in the order of the five numbers.
        TideGates y = new TideGates();
        check.is("feed", y.feed(0x6d65616e, 0x20313233, 0x3b676170, 0x20312020, 0x3b202020), 20);
        check.is("text", y.text(20), 0);
        check.is("mean", y.told(3), 123);
        check.is("gap", y.told(4), 1);
    }

    // 3
    private void text() {
        TideGates x = new TideGates();
        check.refuses("below 0", () -> x.text(-1), NUMBER);
        check.refuses("above the tape", () -> x.text(1), NUMBER);
        check.is("an empty text", x.text(0), -9);
        check.is("its place", x.fault(), 0);
        check.is("no act", x.told(8), 0);
        check.is("bars and ships", Texts.tell(x, CHANNEL), 6);
        check.is("the tape is empty", x.told(7), 0);
        check.is("an act", x.told(8), 1);
        x.book(2, 0, 8);
        x.surge(5);
        check.is("with a flaw", Texts.tell(x, "mean 9;gap 3;bar"), -9);
        check.is("tape empty then too", x.told(7), 0);
        check.is("mean stays", x.told(3), 300);
        check.is("gap stays", x.told(4), 15);
        check.is("booked stays", x.told(6), 4);
        check.is("acts stay", x.told(8), 3);
        check.is("fewer than there are", firstOf(x, "mean 9;bar 1 900 1 0 100;", 7), 0);
        check.is("all anew", x.told(1) + x.told(2) + x.told(0) + x.told(6) + x.told(5), 0);
        check.is("the rest is gone", x.told(7), 0);
        Texts.tell(x, "mean 9;surge -7;gap 200;squat 3;wave 1 60 5;bar 1 900 1 0 100;ship 500 50 0 4 9;");
        check.is("one of each", x.told(0) * 100 + x.told(1) * 10 + x.told(2), 111);
        check.is("without them again", Texts.tell(x, "mean 9;bar 1 900 1 0 100;ship 500 50 0 4 9;"), 2);
        check.is("gap without", x.told(4), 15);
        check.is("surge without", x.told(5), 0);
        check.is("waves without", x.told(0), 0);
        check.is("squat without", x.squat(0, 0, 0, 10), 50);
        check.is("blanks all over", Texts.tell(x, "  mean  007 ;  surge  -  30 ;bar 1 900 1 0 100  lie ;"
                + " ship 0500 50 0 4 4out ; squat ( speed ) * 2 - 1;  "), 2);
        check.is("and read", x.told(3) * 1000 + x.told(5), 6970);
        check.is("and reckoned", x.squat(0, 0, 0, 10), 19);
        check.is("no blanks but between numbers", Texts.tell(x, "mean7;surge-30;bar1 900 1 0 100lie;"), 1);
    }

    private static int firstOf(TideGates x, String text, int n) {
        Texts.feed(x, text);
        return x.text(n);
    }

    /** Bytes behind the n-th are none of the text's, whatever stands there. */
    private void cutTexts() {
        String text = "mean 50;squat speed+7 ;bar 1 900 1 0 100 lie;ship 500 50 0 4 9 out;";
        // Of each n: ended too early (at n), within a word that is none then (at its first byte), or fine.
        int[] due = {0, 0, 0, 0, 4, 5, 6, 7, -1, 8, 8, 8, 8, 13, 14, 14, 14, 14, 14, 19, 20, 21, 22, -1};
        for (int n = 0; n < due.length; n++) {
            TideGates x = new TideGates();
            check.is("first " + n + " of it", firstOf(x, text, n), due[n] == -1 ? 0 : -9);
            check.is("fault in the first " + n, x.fault(), due[n]);
        }
        TideGates x = new TideGates();
        firstOf(x, text, 8);
        check.is("cut behind the mean", x.told(3), 50);
        firstOf(x, "mean 5067;", 6);
        check.is("cut in the number", x.fault(), 6);
        firstOf(x, "mean 50;gap 10;x", 15);
        check.is("cut ahead of what can't stand there", x.told(4), 10);
    }

    private void flaw(String text, int kind, int place) {
        TideGates x = new TideGates();
        check.is("text of " + text, Texts.tell(x, text), kind - 10);
        check.is("fault of " + text, x.fault(), place);
    }

    private void fine(String text, int due) {
        TideGates x = new TideGates();
        check.is("text of " + text, Texts.tell(x, text), due);
        check.is("fault of " + text, x.fault(), -1);
    }

    // 3, 4
    private void faults() {
        String six = "wave 1 60 0;wave 1 60 0;wave 1 60 0;wave 1 60 0;wave 1 60 0;wave 1 60 0;";
        fine("mean 0;" + six, 0);
        flaw("mean 0;" + six + "wave 1 60 0;", 3, 7 + six.length());
        flaw("mean 0;" + six + "  wave ", 3, 9 + six.length());
        flaw("mean 0;" + six + "waves", 1, 7 + six.length());
        String bars = "bar 0 100 1 0 50;".repeat(6);
        fine("mean 0;" + bars, 6);
        flaw("mean 0;" + bars + "bar 9999;", 3, 7 + bars.length());
        String ships = "ship 100 40 0 4 4;".repeat(6);
        fine("mean 0;" + ships, 6);
        flaw("mean 0;" + ships + "ship;", 3, 7 + ships.length());
        flaw("mean 1;squat 1;squat 2;", 1, 15);
        flaw("mean 1;gap 1; gap 2;", 1, 14);
        flaw("mean 1;surge 1;surge 2;", 1, 15);
        flaw("mean 1;mean 2;", 1, 7);
        flaw("mean 1;gapz 2;", 1, 7);
        flaw("mean 1;gapa 2;", 1, 7);
        fine("mean 1;squat ((((1))))+((((2))));", 0);
        flaw("mean 1;squat ((((1+(2)))));", 4, 19);
        flaw("mean 1;squat ((((1(2)))));", 1, 18);
        flaw("mean 1;squat (((((", 4, 17);
        flaw("mean 1;squat ((((", 1, 17);
        flaw("mean 1;squat ();", 1, 14);
        flaw("mean 1;squat (1;", 1, 15);
        flaw("mean 1;squat 1);", 1, 14);
        flaw("mean 1;squat -1;", 1, 13);
        flaw("mean 1;squat 1 2;", 1, 15);
        flaw("mean 1;squat 10000;", 2, 13);
        flaw("mean 1;squat speedy;", 1, 13);
        flaw("mean 1;squat keep;", 1, 13);
        flaw("mean 1;squat ;", 1, 13);
        fine("mean 1;squat 9999+0009;", 0);
    }

    // 3, 4
    private void faultPlaces() {
        check.is("ahead of any", new TideGates().fault(), -1);
        flaw("", 1, 0);
        flaw("   ", 1, 3);
        flaw("mea", 1, 0);
        flaw(" means 5;", 1, 1);
        flaw("mean", 1, 4);
        flaw("mean ;", 1, 5);
        flaw("mean 5", 1, 6);
        flaw("mean 5  ", 1, 8);
        flaw("mean 5 6;", 1, 7);
        flaw("mean 5;;", 1, 7);
        flaw("Mean 5;", 1, 0);
        flaw("mean 5;\u0000", 1, 7);
        flaw("mean 5;\u00e6", 1, 7);
        flaw("mean 5;\t", 1, 7);
        flaw("mean -5;", 1, 5);
        flaw("mean 1001x", 2, 5);
        flaw("mean 4294967297;", 2, 5);
        flaw("mean 18446744073709551616000000000000000000;", 2, 5);
        flaw("mean 5;wave 401 60 0;", 2, 12);
        flaw("mean 5;wave 400 59 0;", 2, 16);
        flaw("mean 5;wave 400 2001 0;", 2, 16);
        flaw("mean 5;wave 400 2000 2001;", 2, 21);
        flaw("mean 5;wave 400 2000;", 1, 20);
        flaw("mean 5;wave 400 2000 2000 1;", 1, 26);
        flaw("mean 5;bar 201 99 1 0 50;", 2, 11);
        flaw("mean 5;bar 200 99 1 0 50;", 2, 15);
        flaw("mean 5;bar 200 3001 1 0 50;", 2, 15);
        flaw("mean 5;bar 200 3000 0 0 50;", 2, 20);
        flaw("mean 5;bar 200 3000 21 0 50;", 2, 20);
        flaw("mean 5;bar 200 3000 20 301 50;", 2, 23);
        flaw("mean 5;bar 200 3000 20 300 49;", 2, 27);
        flaw("mean 5;bar 200 3000 20 300 151;", 2, 27);
        flaw("mean 5;bar 200 3000 20 300 150 out;", 1, 31);
        flaw("mean 5;bar 200 3000 20 300 150 lie lie;", 1, 35);
        fine("mean 5;bar 200 3000 20 300 150 lie;", 1);
        flaw("mean 5;ship 99 40 0 4 4;", 2, 12);
        flaw("mean 5;ship 2501 40 0 4 4;", 2, 12);
        flaw("mean 5;ship 2500 39 0 4 4;", 2, 17);
        flaw("mean 5;ship 2500 96 0 4 4;", 2, 17);
        flaw("mean 5;ship 2500 95 301 4 4;", 2, 20);
        flaw("mean 5;ship 2500 95 300 3 4;", 2, 24);
        flaw("mean 5;ship 2500 95 300 26 26;", 2, 24);
        flaw("mean 5;ship 2500 95 300 9 8;", 2, 26);
        flaw("mean 5;ship 2500 95 300 9 26;", 2, 26);
        flaw("mean 5;ship 2500 95 300 9 9 lie;", 1, 28);
        fine("mean 5;ship 2500 95 300 25 25 out;", 1);
        flaw("mean 5;gap 241;", 2, 11);
        flaw("mean 5;gap -1;", 1, 11);
        flaw("mean 5;surge 301;", 2, 13);
        flaw("mean 5;surge -301;", 2, 14);
        flaw("mean 5;surge --3;", 1, 14);
        flaw("mean 5;surge +3;", 1, 13);
        flaw("mean 5;surge - ;", 1, 15);
        flaw("mean 5;gap 5;surge 5", 1, 20);
        TideGates x = new TideGates();
        Texts.tell(x, "mean 1001;");
        check.is("a fault", x.fault(), 5);
        check.refuses("text", () -> x.text(1), NUMBER);
        check.is("a text that threw is none", x.fault(), 5);
        x.surge(4);
        x.undo();
        check.is("undo leaves it", x.fault(), 5);
        Texts.tell(x, "mean 1000;");
        check.is("no fault any more", x.fault(), -1);
    }

    // 5
    private void sound() {
        TideGates x = gates(STILL);
        check.is("sound", x.sound(0, 100), 900);
        check.is("sound", x.sound(0, 3000), 100);
        check.is("depth", x.bar(0, 1), 3000);
        check.is("water", x.water(0, 0), 3500);
        check.refuses("too shallow", () -> x.sound(0, 99), NUMBER);
        check.refuses("too deep", () -> x.sound(0, 3001), NUMBER);
        check.refuses("no bar 1", () -> x.sound(1, 500), MISSING);
        check.refuses("no bar -1", () -> x.sound(-1, 99), MISSING);
        check.is("acts", x.told(8), 3);
    }

    // 6
    private void load() {
        TideGates x = gates(STILL);
        check.is("load", x.load(0, 100), 1000);
        check.is("load", x.load(0, 2500), 100);
        check.is("draught", x.ship(0, 0), 2500);
        check.refuses("too light", () -> x.load(0, 99), NUMBER);
        check.refuses("too heavy", () -> x.load(0, 2501), NUMBER);
        check.refuses("no ship 1", () -> x.load(1, 500), MISSING);
        check.refuses("no ship -1", () -> x.load(-1, 0), MISSING);
    }

    // 7
    private void surge() {
        TideGates x = gates(STILL);
        check.is("surge", x.surge(-300), 0);
        check.is("surge", x.surge(300), -300);
        check.is("height", x.height(5), 800);
        check.refuses("above", () -> x.surge(301), NUMBER);
        check.refuses("below", () -> x.surge(-301), NUMBER);
        check.is("acts", x.told(8), 3);
        TideGates y = new TideGates();
        check.is("surge of nothing", y.surge(7), 0);
        check.is("height of nothing", y.height(0), 7);
    }

    // 8
    private void book() {
        TideGates x = gates("mean 500;bar 10 900 5 0 100;ship 1000 80 100 5 20;ship 1000 80 100 4 10 out;"
                + "ship 2500 80 0 4 9;");
        check.refuses("no ship", () -> x.book(3, -1, 0), MISSING);
        check.refuses("start", () -> x.book(0, -1, 10), NUMBER);
        check.refuses("start", () -> x.book(0, 2001, 10), NUMBER);
        check.refuses("below the least", () -> x.book(0, 0, 4), NUMBER);
        check.refuses("above the most", () -> x.book(0, 0, 21), NUMBER);
        check.refuses("aground by 20", () -> x.book(0, 0, 20), STATE);
        check.refuses("aground", () -> x.book(2, 0, 9), STATE);
        check.is("acts", x.told(8), 1);
        check.is("ends", x.book(0, 2000, 10), 2009);
        check.refuses("twice", () -> x.book(0, 0, 10), STATE);
        check.refuses("close", () -> x.book(1, 1999, 10), STATE);
        check.refuses("close", () -> x.book(1, 1989, 10), STATE);
        check.is("15 ahead", x.book(1, 1988, 10), 1991);
        check.is("booked", x.told(6), 3);
        check.is("status", x.status(2), 5);
        TideGates y = gates("mean 5;gap 0;bar 0 900 1 0 100;ship 100 40 0 6 6;ship 100 40 0 6 6;ship 100 40 0 6 6;");
        check.is("gap 0", y.book(0, 10, 6), 11);
        check.refuses("one minute shared", () -> y.book(1, 11, 6), STATE);
        check.is("no minute shared", y.book(1, 12, 6), 13);
        check.is("no minute shared", y.book(2, 8, 6), 9);
        TideGates z = gates("mean 5;ship 2500 95 300 4 4;ship 2500 95 300 4 4;");
        check.is("no bars", z.book(0, 7, 4), 7);
        check.is("no bars", z.book(1, 7, 4), 7);
    }

    // 9
    private void cancel() {
        TideGates x = gates(STILL);
        check.refuses("not booked", () -> x.cancel(0), STATE);
        check.refuses("no ship", () -> x.cancel(1), MISSING);
        x.book(0, 77, 10);
        check.is("cancel", x.cancel(0), 77);
        check.is("start", x.ship(0, 6), -1);
        check.is("speed", x.ship(0, 7), -1);
        check.refuses("twice", () -> x.cancel(0), STATE);
        check.is("again", x.book(0, 78, 10), 87);
    }

    // 10
    private void undo() {
        TideGates x = gates(STILL);
        x.book(0, 5, 10);
        x.sound(0, 800);
        x.load(0, 900);
        x.surge(10);
        x.cancel(0);
        check.is("undo cancel", x.undo(), 5);
        check.is("start", x.ship(0, 6), 5);
        check.is("speed", x.ship(0, 7), 10);
        check.is("undo surge", x.undo(), 4);
        check.is("surge", x.told(5), 0);
        check.is("undo load", x.undo(), 3);
        check.is("draught", x.ship(0, 0), 1000);
        check.is("undo sound", x.undo(), 2);
        check.is("depth", x.bar(0, 1), 900);
        check.is("undo book", x.undo(), 1);
        check.is("booked", x.told(6), 0);
        check.is("undo text", x.undo(), 0);
        check.is("bars", x.told(1), 0);
        check.is("none", x.undo(), -1);
        for (int i = 1; i <= 11; i++) {
            x.surge(i);
        }
        check.is("eight are kept", x.told(8), 8);
        for (int i = 7; i >= 0; i--) {
            check.is("undo", x.undo(), i);
        }
        check.is("the fourth is too old", x.undo(), -1);
        check.is("surge", x.told(5), 3);
        undoneTexts();
    }

    private void undoneTexts() {
        TideGates x = gates(CHANNEL);
        check.is("water", x.water(1, 240), 1100);
        x.book(2, 0, 8);
        x.surge(40);
        Texts.tell(x, "mean 1;wave 400 100 3;squat 5;gap 7;surge 9;ship 100 40 0 5 6;");
        check.is("another tide", x.height(28), 410);
        x.feed(1, 2, 3, 4, 5);
        check.is("undo text", x.undo(), 3);
        check.is("the tape stays", x.told(7), 20);
        check.is("gap", x.told(4), 15);
        check.is("surge", x.told(5), 40);
        check.is("booked", x.told(6), 4);
        check.is("squat", x.squat(0, 0, 0, 10), 70);
        check.is("its tide again", x.height(180), 540);
        check.is("undo surge", x.undo(), 2);
        check.is("water again", x.water(1, 240), 1100);
        x.surge(1);
        check.is("acts", x.told(8), 3);
    }

    // 11
    private void told() {
        TideGates x = gates(CHANNEL);
        x.surge(-20);
        x.book(2, 100, 8);
        x.feed(0, 0, 0, 0, 0);
        int[] due = {1, 3, 3, 300, 15, -20, 4, 20, 3};
        for (int what = 0; what < due.length; what++) {
            check.is("told " + what, x.told(what), due[what]);
        }
        check.refuses("told -1", () -> x.told(-1), NUMBER);
        check.refuses("told 9", () -> x.told(9), NUMBER);
    }

    // 12
    private void wave() {
        TideGates x = gates("mean 5;wave 1 60 3;wave 400 2000 2000;");
        check.is("amplitude", x.wave(1, 0), 400);
        check.is("period", x.wave(0, 1), 60);
        check.is("lag", x.wave(0, 2), 3);
        check.is("lag", x.wave(1, 2), 2000);
        check.refuses("no wave", () -> x.wave(2, 3), MISSING);
        check.refuses("no wave", () -> x.wave(-1, 0), MISSING);
        check.refuses("what", () -> x.wave(1, 3), NUMBER);
        check.refuses("what", () -> x.wave(1, -1), NUMBER);
    }

    // 13
    private void bar() {
        TideGates x = gates(CHANNEL);
        int[] due = {20, 850, 10, 60, 50, 1};
        for (int what = 0; what < due.length; what++) {
            check.is("bar 1 " + what, x.bar(1, what), due[what]);
        }
        check.is("no lying", x.bar(2, 5), 0);
        check.refuses("no bar", () -> x.bar(3, 9), MISSING);
        check.refuses("no bar", () -> x.bar(-1, 0), MISSING);
        check.refuses("what", () -> x.bar(0, 6), NUMBER);
        check.refuses("what", () -> x.bar(0, -1), NUMBER);
    }

    // 14
    private void ship() {
        TideGates x = gates(CHANNEL);
        int[] due = {1000, 60, 0, 4, 25, 1, -1, -1};
        for (int what = 0; what < due.length; what++) {
            check.is("ship 1 " + what, x.ship(1, what), due[what]);
        }
        check.is("in", x.ship(0, 5), 0);
        x.book(2, 50, 8);
        check.is("start", x.ship(2, 6), 50);
        check.is("speed", x.ship(2, 7), 8);
        check.refuses("no ship", () -> x.ship(3, 9), MISSING);
        check.refuses("no ship", () -> x.ship(-1, 0), MISSING);
        check.refuses("what", () -> x.ship(0, 8), NUMBER);
        check.refuses("what", () -> x.ship(0, -1), NUMBER);
    }

    // 15
    private void height() {
        TideGates x = gates(WAVING);
        int[][] due = {{0, 500}, {1, 501}, {90, 641}, {180, 700}, {359, 501}, {360, 500}, {361, 499}, {540, 300},
            {719, 499}, {720, 500}, {9900, 300}, {10000, 372}};
        for (int[] row : due) {
            check.is("height " + row[0], x.height(row[0]), row[1]);
        }
        check.refuses("before", () -> x.height(-1), NUMBER);
        check.refuses("behind", () -> x.height(10001), NUMBER);
        // Each wave is cut by itself, towards 0: 1 and 1 of 999 parts are 0, not 1; below 0 likewise.
        TideGates y = gates("mean 0;wave 1 1900 0;wave 1 1900 0;wave 1 1900 0;");
        check.is("cut each", y.height(470), 0);
        check.is("whole", y.height(475), 3);
        check.is("cut each", y.height(1420), 0);
        check.is("whole", y.height(1425), -3);
        TideGates z = gates("mean 10;surge -30;wave 100 400 2000;wave 7 60 59;");
        check.is("lags", z.height(0), -20);
        check.is("lags", z.height(100), -20 + 100 - 6);
    }

    // 16
    private void peak() {
        TideGates x = gates(WAVING);
        check.is("highest", x.peak(0, 720, 0), 180);
        check.is("lowest", x.peak(0, 720, 1), 540);
        check.is("first of several", x.peak(0, 2000, 0), 180);
        check.is("first of several", x.peak(541, 2000, 1), 1260);
        check.is("one minute", x.peak(77, 1, 0), 77);
        check.is("the last of them", x.peak(100, 81, 0), 180);
        check.is("one less", x.peak(100, 80, 0), 169);
        check.is("late", x.peak(10000, 2000, 0), 10260);
        check.is("flat", gates(STILL).peak(4, 50, 1), 4);
        check.refuses("minute", () -> x.peak(10001, 1, 0), NUMBER);
        check.refuses("minute", () -> x.peak(-1, 1, 0), NUMBER);
        check.refuses("count", () -> x.peak(0, 0, 0), NUMBER);
        check.refuses("count", () -> x.peak(0, 2001, 0), NUMBER);
        check.refuses("what", () -> x.peak(0, 1, 2), NUMBER);
        check.refuses("what", () -> x.peak(0, 1, -1), NUMBER);
    }

    // 17
    private void water() {
        TideGates x = gates(CHANNEL);
        check.is("no delay", x.water(0, 180), 1400);
        check.is("later and half", x.water(1, 240), 1100);
        check.is("ahead of 0", x.water(2, 0), 1000 + x.height(420) * 150 / 100);
        TideGates y = gates("mean 0;surge -3;bar 0 100 1 0 50;");
        check.is("cut towards 0", y.water(0, 0), 99);
        check.refuses("no bar", () -> x.water(3, -1), MISSING);
        check.refuses("minute", () -> x.water(0, -1), NUMBER);
        check.refuses("minute", () -> x.water(0, 10001), NUMBER);
    }

    // 18
    private void above() {
        TideGates x = gates(WAVING);
        check.is("at the peak", x.above(0, 1200, 0, 720), 1);
        check.is("or more", x.above(0, 1000, 0, 720), 361);
        check.is("always", x.above(0, Integer.MIN_VALUE, 10000, 2000), 2000);
        check.is("never", x.above(0, Integer.MAX_VALUE, 0, 2000), 0);
        check.is("none", x.above(0, 0, 0, 0), 0);
        check.refuses("no bar", () -> x.above(1, 0, -1, 0), MISSING);
        check.refuses("count", () -> x.above(0, 0, 0, -1), NUMBER);
        check.refuses("count", () -> x.above(0, 0, 0, 2001), NUMBER);
        check.refuses("minute", () -> x.above(0, 0, 10001, 5), NUMBER);
    }

    // 19
    private void squat() {
        TideGates x = gates("mean 0;bar 0 100 1 0 50;ship 100 95 0 10 12;");
        check.is("without a formula", x.squat(0, 0, 0, 25), 593);
        check.is("cut", x.squat(0, 0, 0, 7), 46);
        check.is("speed below the least", x.squat(0, 0, 0, 4), 15);
        check.refuses("no ship", () -> x.squat(1, 0, -1, 4), MISSING);
        check.refuses("no bar", () -> x.squat(0, 1, -1, 4), MISSING);
        check.refuses("minute", () -> x.squat(0, 0, 10001, 4), NUMBER);
        check.refuses("slow", () -> x.squat(0, 0, 0, 3), NUMBER);
        check.refuses("fast", () -> x.squat(0, 0, 0, 26), NUMBER);
    }

    private void formula(String formula, int due) {
        TideGates x = gates("mean 20;bar 0 800 1 0 100;ship 700 60 0 4 25;squat " + formula + ";");
        check.is("squat " + formula, x.squat(0, 0, 0, 10), due);
    }

    private void formulas() {
        formula("speed", 10);
        formula("block", 60);
        formula("draught", 700);
        formula("water", 820);
        formula("1+2*3", 7);
        formula("(1+2)*3", 9);
        formula("9-4-3", 2);
        formula("100/10/5", 2);
        formula("7/2*2", 6);
        formula("7*3/2", 10);
        formula("(0-7)/2+4", 1);
        formula("5/0+8", 8);
        formula("1-2", 0);
        formula("9999+1", 9999);
        formula("9999*9999*9999*9999/9999/9999", 10);
        formula("9999*9999*9999-9999*9999*9999+5", 5);
        formula("(9999*9999*9999+9999*9999*9999)/9999/9999", 10);
        formula("(0-9999*9999*9999-9999)/9999/9999+30", 20);
        formula("((((speed))))*((((2))))", 20);
        formula("2*(3+4*(5-(6-(1+1))))-1", 13);
        formula("1+1*1+1*(1+1*(1+1*(1+1*(1+1*1))))", 7);
    }

    // 20
    private void left() {
        TideGates x = gates(WAVING);
        check.is("left", x.left(0, 0, 0, 10), 220);
        check.is("left", x.left(0, 0, 540, 10), 20);
        check.is("below 0", x.left(0, 0, 540, 25), -400);
        check.refuses("no ship", () -> x.left(-1, 0, 0, 30), MISSING);
        check.refuses("no bar", () -> x.left(0, -1, 0, 30), MISSING);
        check.refuses("minute", () -> x.left(0, 0, -1, 10), NUMBER);
        check.refuses("speed", () -> x.left(0, 0, 0, 26), NUMBER);
    }

    // 21
    private void fastest() {
        TideGates x = gates(WAVING);
        check.is("low", x.fastest(0, 0, 540), 7);
        check.is("mean", x.fastest(0, 0, 0), 17);
        check.is("high", x.fastest(0, 0, 180), 20);
        x.load(0, 800);
        check.is("by none", x.fastest(0, 0, 540), -1);
        // Sinks less by more speed: the greatest all the same.
        TideGates y = gates("mean 0;squat (10-speed)*100;bar 0 500 1 0 100;ship 400 50 100 4 12;");
        check.is("greatest", y.fastest(0, 0, 0), 12);
        check.refuses("no ship", () -> x.fastest(1, 0, -1), MISSING);
        check.refuses("no bar", () -> x.fastest(0, 1, -1), MISSING);
        check.refuses("minute", () -> x.fastest(0, 0, 10001), NUMBER);
    }

    // 22
    private void window() {
        TideGates x = gates("mean 500;wave 200 720 0;bar 0 500 1 0 100;ship 820 80 100 4 20;");
        // By 10 knots it needs 1000 of water: minutes 0 to 360 and 720 to 1080; it is on the bar for 1 minute.
        check.is("how many", x.window(0, 0, 10, 0, -1, 0), 2);
        check.is("first", x.window(0, 0, 10, 0, 0, 0), 0);
        check.is("last", x.window(0, 0, 10, 0, 0, 1), 359);
        check.is("second", x.window(0, 0, 10, 0, 1, 0), 720);
        check.is("second", x.window(0, 0, 10, 0, 1, 1), 1079);
        check.is("to the end", x.window(0, 0, 10, 700, 1, 1), 1799);
        check.is("the last minute of a day", x.window(0, 0, 10, 721, -1, 0), 3);
        check.is("is a window", x.window(0, 0, 10, 721, 2, 0), 2160);
        check.is("cut at both ends", x.window(0, 0, 10, 10, 0, 0), 10);
        check.is("one more", x.window(0, 0, 10, 1, 2, 0), 1440);
        check.is("one more", x.window(0, 0, 10, 1, 2, 1), 1440);
        for (int m = 350; m < 370; m++) {
            check.is("cut by the day from " + m, x.window(0, 0, 10, m, m < 360 ? 2 : 1, 1), Math.min(m + 1439, 1799));
        }
        check.refuses("no third", () -> x.window(0, 0, 10, 400, 2, 0), MISSING);
        check.refuses("no -2nd", () -> x.window(0, 0, 10, 0, -2, 1), MISSING);
        check.refuses("how many, what 1", () -> x.window(0, 0, 10, 0, -1, 1), NUMBER);
        check.refuses("k last", () -> x.window(0, 0, 26, 0, 9, 0), NUMBER);
        check.refuses("k last", () -> x.window(0, 0, 10, 0, 9, 2), NUMBER);
        check.refuses("k last", () -> x.window(0, 0, 10, 10001, 9, 0), NUMBER);
        check.refuses("no ship", () -> x.window(1, 0, 26, 0, 0, 0), MISSING);
        check.refuses("no bar", () -> x.window(0, 1, 26, 0, 0, 0), MISSING);
        check.is("none", gates(STILL).window(0, 0, 20, 0, -1, 0), 0);
        check.refuses("none", () -> gates(STILL).window(0, 0, 20, 0, 0, 0), MISSING);
        check.is("late", gates(STILL).window(0, 0, 10, 10000, 0, 1), 11439);
    }

    // 23
    private void joined() {
        String tide = "mean 500;wave 200 720 0;";
        String ship = "ship 820 80 100 4 20;ship 820 80 100 4 20 out;";
        TideGates x = gates(tide + "bar 50 500 1 0 100;bar 50 500 1 60 100;" + ship);
        // In, by 10: at the first bar 30 to 31 behind the start, at the second 61 to 62, whose tide is 60 later.
        check.is("how many in", x.joined(0, 10, 0, -1, 0), 3);
        check.is("from", x.joined(0, 10, 0, 0, 0), 0);
        check.is("to", x.joined(0, 10, 0, 0, 1), 329);
        check.is("from", x.joined(0, 10, 0, 1, 0), 720 - 1);
        check.is("to", x.joined(0, 10, 0, 1, 1), 720 + 329);
        // Out: at the second bar 0 to 1 behind the start, at the first 31 to 32.
        check.is("from", x.joined(1, 10, 0, 0, 0), 60);
        check.is("to", x.joined(1, 10, 0, 0, 1), 328);
        check.is("late", x.joined(1, 10, 10000, 0, 0), 10140);
        check.is("the day's last", x.joined(0, 10, 0, 2, 0), 1439);
        check.refuses("no fourth", () -> x.joined(0, 10, 0, 3, 0), MISSING);
        check.refuses("no -2nd", () -> x.joined(0, 10, 0, -2, 0), MISSING);
        check.refuses("no ship", () -> x.joined(2, 26, 0, 0, 0), MISSING);
        check.refuses("speed", () -> x.joined(0, 3, 0, 9, 0), NUMBER);
        check.refuses("minute", () -> x.joined(0, 4, -1, 9, 0), NUMBER);
        check.refuses("what", () -> x.joined(0, 4, 0, 9, 2), NUMBER);
        check.refuses("how many, what 1", () -> x.joined(0, 4, 0, -1, 1), NUMBER);
        TideGates y = gates(tide + ship);
        check.is("no bars", y.joined(0, 4, 5, -1, 0), 1);
        check.is("no bars", y.joined(0, 4, 5, 0, 1), 1444);
    }

    // 24
    private void lasts() {
        TideGates x = gates(CHANNEL);
        check.is("in by 10", x.lasts(0, 10), 6 + 3 + 12 + 6 + 0 + 1);
        check.is("in by 7", x.lasts(0, 7), 9 + 5 + 18 + 9 + 0 + 1);
        check.is("in by 25", x.lasts(0, 25), 3 + 2 + 5 + 3 + 0 + 1);
        check.is("out by 10", x.lasts(1, 10), 1 + 0 + 6 + 12 + 3);
        check.is("out by 4", x.lasts(1, 4), 2 + 0 + 15 + 30 + 8);
        check.is("no bars", gates("mean 5;ship 100 40 0 4 4;").lasts(0, 4), 0);
        check.refuses("no ship", () -> x.lasts(3, 3), MISSING);
        check.refuses("speed", () -> x.lasts(0, 3), NUMBER);
        check.refuses("speed", () -> x.lasts(0, 26), NUMBER);
    }

    // 25
    private void least() {
        TideGates x = gates("mean 500;wave 200 720 0;bar 10 600 5 0 100;bar 10 500 5 0 100;ship 700 80 50 4 20;"
                + "ship 700 80 50 4 20 out;");
        // In by 10: minutes 6 to 9 and 15 to 18 behind the start; out: second bar 0 to 3, first bar 9 to 12.
        check.is("rising", x.least(0, 0, 10), x.height(15) + 500 - 780);
        check.is("falling", x.least(0, 300, 10), x.height(318) + 500 - 780);
        check.is("out", x.least(1, 0, 10), x.height(0) + 500 - 780);
        check.is("out", x.least(1, 300, 10), x.height(303) + 500 - 780);
        check.is("below 0", x.least(0, 540, 25), 300 + 500 - 700 - 500 + x.height(546) - 300);
        check.is("no bars", gates("mean 5;ship 100 40 0 4 4;").least(0, 0, 4), TideGates.NO);
        check.refuses("no ship", () -> x.least(2, -1, 3), MISSING);
        check.refuses("start", () -> x.least(0, 10001, 4), NUMBER);
        check.refuses("speed", () -> x.least(0, 0, 26), NUMBER);
    }

    // 26
    private void deepest() {
        TideGates x = gates(STILL);
        check.is("deepest", x.deepest(0, 0, 10), 1400 - 80 - 100);
        check.is("late", x.deepest(0, 10000, 4), 1400 - 12 - 100);
        check.is("its own stays", x.ship(0, 0), 1000);
        check.is("no act", x.told(8), 1);
        x.sound(0, 3000);
        check.is("2,500 at most", x.deepest(0, 0, 10), 2500);
        x.sound(0, 100);
        x.surge(-220);
        check.is("just 100", x.deepest(0, 0, 10), 200);
        x.surge(-300);
        check.is("by speed", x.deepest(0, 0, 12), -1);
        check.is("just", x.deepest(0, 0, 11), 300 - 96 - 100);
        check.is("no bars", gates("mean 5;ship 100 40 0 4 4;").deepest(0, 0, 4), 2500);
        String shallow = "mean 0;squat 0;bar 0 100 1 0 100;ship 500 40 0 4 4;ship 500 40 1 4 4;";
        check.is("100", gates(shallow).deepest(0, 0, 4), 100);
        check.is("not 99", gates(shallow).deepest(1, 0, 4), -1);
        // What it sinks grows with its draught: d and d/10 and 100 are 1400 at most.
        TideGates y = gates("mean 500;squat draught/10;bar 10 900 5 0 100;ship 1000 80 100 4 20;");
        check.is("by draught", y.deepest(0, 0, 10), 1182);
        // By 700 or less alone it sinks nothing: an isle far below those at which it is aground.
        TideGates z = gates("mean 500;squat draught/701*9999;bar 10 900 5 0 100;ship 1000 80 100 4 20;");
        check.is("an isle", z.deepest(0, 0, 10), 700);
        // By 1200 and more it sinks nothing, by less it is aground.
        TideGates u = gates("mean 500;squat 9999-draught/1200*9999;bar 10 900 5 0 100;ship 1000 80 100 4 20;");
        check.is("the deepest", u.deepest(0, 0, 10), 1300);
        u.sound(0, 700);
        check.is("none", u.deepest(0, 0, 10), -1);
        check.refuses("no ship", () -> x.deepest(1, -1, 3), MISSING);
        check.refuses("start", () -> x.deepest(0, 10001, 4), NUMBER);
        check.refuses("speed", () -> x.deepest(0, 0, 3), NUMBER);
    }

    // 27
    private void soonest() {
        TideGates x = gates(STILL);
        // By 19 knots at most: 4 minutes and 2.
        check.is("fastest", x.soonest(0, 100), 106);
        check.refuses("no ship", () -> x.soonest(1, -1), MISSING);
        check.refuses("start", () -> x.soonest(0, -1), NUMBER);
        check.refuses("start", () -> x.soonest(0, 10001), NUMBER);
        check.is("late", x.soonest(0, 10000), 10006);
        x.load(0, 1400);
        check.is("not at all", x.soonest(0, 0), -1);
        check.is("no bars", gates("mean 5;ship 100 40 0 4 4;").soonest(0, 9), 9);
        String tide = "mean 500;wave 200 720 0;";
        String ships = "ship 820 80 100 10 10;ship 820 80 100 10 10 out;";
        // It needs 1000 of water: from 720 on again.
        TideGates lie = gates(tide + "bar 10 500 5 0 100 lie;" + ships);
        check.is("waits", lie.soonest(0, 400), 723);
        check.is("waits going out", lie.soonest(1, 400), 723);
        check.is("no waiting", gates(tide + "bar 10 500 5 0 100;" + ships).soonest(0, 400), -1);
        check.is("in time", gates(tide + "bar 10 500 5 0 100;" + ships).soonest(0, 351), 360);
        check.is("too late by one", gates(tide + "bar 10 500 5 0 100;" + ships).soonest(0, 352), -1);
        limitOfSoonest();
        speedsOfSoonest();
    }

    private void limitOfSoonest() {
        // Aground for more than 1,000 minutes; by 6 knots it is on the bar for 1.
        TideGates x = gates("mean 500;wave 200 2000 0;bar 0 500 1 0 100 lie;ship 882 80 100 6 6;");
        int lastClear = x.window(0, 0, 6, 0, 0, 1) + 1;
        int clearAgain = x.window(0, 0, 6, lastClear, 0, 0);
        check.isTrue("more than 1,000 minutes", clearAgain - lastClear > 1001);
        check.is("1,000 later", x.soonest(0, clearAgain + 1 - 1000), clearAgain + 1);
        check.is("1,001 later", x.soonest(0, clearAgain - 1000), -1);
        check.is("in time", x.soonest(0, lastClear - 1), lastClear);
        check.is("too late", x.soonest(0, lastClear), -1);
    }

    private void speedsOfSoonest() {
        // Slow over the first bar, where it sinks by speed; then as fast as it can go.
        TideGates x = gates("mean 0;bar 60 1000 10 0 100;bar 60 2000 10 0 100;ship 900 95 0 5 20;");
        check.is("by 10, then by 20", x.soonest(0, 0), 36 + 6 + 18 + 3);
        // Out: the second bar at once by 20, then 60 and the first bar by 10.
        TideGates y = gates("mean 0;bar 60 1000 10 0 100;bar 60 2000 10 0 100;ship 900 95 0 5 20 out;");
        check.is("out", y.soonest(0, 0), 3 + 36 + 6);
        // No lying at the second bar, which is clear in a while: it goes slower at first, to come just then.
        TideGates z = gates("mean 0;wave 100 720 0;bar 10 900 1 0 100;bar 20 900 1 0 100;ship 870 40 0 4 8;");
        check.is("slower is sooner", z.soonest(0, 700), firstBySearch(z, 700));
    }

    /** The same by trying all speeds for both bars. */
    private static int firstBySearch(TideGates x, int start) {
        int best = -1;
        for (int a = 4; a <= 8; a++) {
            for (int b = 4; b <= 8; b++) {
                int m = start + (60 + a - 1) / a;
                boolean clear = true;
                for (int i = 0; i <= (6 + a - 1) / a; i++) {
                    clear &= x.left(0, 0, m + i, a) >= 0;
                }
                m += (6 + a - 1) / a + (120 + b - 1) / b;
                for (int i = 0; i <= (6 + b - 1) / b; i++) {
                    clear &= x.left(0, 1, m + i, b) >= 0;
                }
                m += (6 + b - 1) / b;
                best = clear && (best == -1 || m < best) ? m : best;
            }
        }
        return best;
    }

    /** Ship 0 needs 1000 of water, ship 1 less, ship 2 none to speak of; the tide has 1000 or more from 0 to 360. */
    private static final String FLEET = "mean 500;wave 200 720 0;gap 100;bar 0 500 1 0 100;ship 820 80 100 4 20;"
            + "ship 720 80 100 4 20;ship 100 80 0 4 20;";

    // 28
    private void convoy() {
        TideGates x = gates(FLEET);
        check.is("one", x.convoy(1, 10, 0), 0);
        check.is("one, later", x.convoy(1, 10, 360), 720);
        check.is("by numbers", x.convoy(7, 10, 360), 720);
        check.is("1 behind 0", x.convoy(3, 10, 0), 0);
        int last = x.window(1, 0, 10, 0, 0, 1);
        check.is("1 has until", x.convoy(6, 10, last), last);
        check.is("1 not any more", x.convoy(6, 10, last + 1), x.window(1, 0, 10, 0, 1, 0));
        TideGates z = gates("mean 0;bar 0 100 1 0 100;ship 101 80 0 4 20;ship 100 40 0 4 20;squat 0;");
        check.is("never", z.convoy(1, 10, 0), -1);
        check.is("never all", z.convoy(3, 10, 0), -1);
        check.is("but the other", z.convoy(2, 10, 10000), 10000);
        check.refuses("no ships", () -> x.convoy(0, 10, 0), NUMBER);
        check.refuses("below 0", () -> x.convoy(-1, 10, 0), NUMBER);
        check.refuses("no such ship", () -> x.convoy(8, 10, 0), NUMBER);
        check.refuses("speed", () -> x.convoy(1, 3, 0), NUMBER);
        check.refuses("minute", () -> x.convoy(1, 4, 10001), NUMBER);
        dayOfConvoy();
    }

    private void dayOfConvoy() {
        TideGates x = gates("mean 500;wave 200 2000 0;wave 200 2000 0;bar 0 500 1 0 100;ship 600 40 300 4 20;"
                + "squat 460;");
        int from = -1;
        for (int m = 1000; m < 4000 && from == -1; m++) {
            from = x.water(0, m) >= 1360 ? m : -1;
        }
        check.is("1,439 later", x.convoy(1, 25, from - 1439), from);
        check.is("1,440 later", x.convoy(1, 25, from - 1440), -1);
    }

    /** Six ships, gaps of 240: the last one's start is 1,200 later, and it alone needs both waves' high water. */
    private void longestConvoy() {
        TideGates x = gates("mean 500;wave 400 2000 1100;wave 400 1333 601;gap 240;bar 0 900 20 0 100;"
                + "ship 100 40 0 4 9;".repeat(5) + "ship 1700 40 300 4 9;");
        int high = x.window(5, 0, 4, 2200, 0, 0);
        int m = high - 1200 - 1439;
        check.isTrue("high water first in " + high, m > 0);
        check.is("the day's last start", x.convoy(63, 4, m), m + 1439);
        check.is("one ahead of it", x.convoy(63, 4, m - 1), -1);
        check.is("the day's last start", x.order(63, 4, m, -1), m + 1439);
        check.is("5 behind all", x.order(63, 4, m, 5), 5);
        check.is("one ahead of it", x.order(63, 4, m - 1, -1), -1);
    }

    // 29
    private void order() {
        TideGates x = gates(FLEET);
        check.is("start", x.order(7, 10, 0, -1), 0);
        check.is("first by numbers", x.order(7, 10, 0, 0), 0);
        check.is("then", x.order(7, 10, 0, 1), 1);
        check.is("then", x.order(7, 10, 0, 2), 2);
        for (int from = 300; from < 800; from += 20) {
            int best = -1;
            for (int m = from; m < from + 1440 && best == -1; m++) {
                best = anyOrder(x, 7, m) ? m : -1;
            }
            check.is("least start from " + from, x.order(7, 10, from, -1), best);
        }
        check.is("2 ahead", x.order(5, 10, 620, 0), 2);
        check.is("0 behind", x.order(5, 10, 620, 1), 0);
        check.is("from", x.order(5, 10, 620, -1), 620);
        check.is("by numbers later", x.convoy(5, 10, 620), 720);
        TideGates z = gates("mean 0;bar 0 100 1 0 100;ship 101 80 0 4 20;ship 100 40 0 4 20;squat 0;");
        check.is("none", z.order(3, 10, 0, -1), -1);
        check.is("none", z.order(3, 10, 0, 1), -1);
        check.refuses("no place", () -> z.order(3, 10, 0, 2), MISSING);
        check.refuses("no place", () -> x.order(5, 10, 0, 2), MISSING);
        check.refuses("no place", () -> x.order(5, 10, 0, -2), MISSING);
        check.refuses("set first", () -> x.order(8, 10, 0, 9), NUMBER);
        check.refuses("set first", () -> x.order(0, 10, 0, 0), NUMBER);
        check.refuses("speed first", () -> x.order(7, 26, 0, 9), NUMBER);
        check.refuses("minute first", () -> x.order(7, 4, -1, 9), NUMBER);
    }

    private static boolean anyOrder(TideGates x, int rest, int m) {
        boolean found = rest == 0;
        for (int ship = 0; ship < 3 && !found; ship++) {
            found = (rest >> ship & 1) == 1 && x.least(ship, m, 10) >= x.ship(ship, 2)
                    && anyOrder(x, rest & ~(1 << ship), m + x.told(4));
        }
        return found;
    }

    // 30
    private void close() {
        TideGates x = gates("mean 500;bar 10 900 5 0 100;ship 1000 80 100 4 20;ship 1000 80 100 4 20;"
                + "ship 1000 80 100 4 20 out;");
        x.book(0, 100, 10);
        check.is("less than 15 behind", x.close(1, 117, 10), 1);
        check.is("15 behind", x.close(1, 118, 10), 0);
        check.is("less than 15 ahead", x.close(1, 83, 10), 1);
        check.is("15 ahead", x.close(1, 82, 10), 0);
        check.is("out", x.close(2, 123, 10), 1);
        check.is("out", x.close(2, 124, 10), 0);
        check.is("itself aside", x.close(0, 100, 10), 0);
        x.book(1, 118, 10);
        check.is("both", x.close(2, 115, 25), 3);
        check.is("by a speed above its most", x.close(2, 300, 25), 0);
        check.refuses("no ship", () -> x.close(3, -1, 0), MISSING);
        check.refuses("start", () -> x.close(0, 10001, 10), NUMBER);
        check.refuses("speed", () -> x.close(0, 0, 26), NUMBER);
        check.is("no act", x.told(8), 3);
        TideGates y = gates("mean 5;gap 0;bar 0 900 1 0 100;ship 100 40 0 6 6;ship 100 40 0 6 6;");
        y.book(0, 10, 6);
        check.is("the same minute", y.close(1, 11, 6), 1);
        check.is("the next minute", y.close(1, 12, 6), 0);
        TideGates z = gates("mean 5;gap 1;bar 0 900 1 0 100;bar 100 900 20 0 100;ship 100 40 0 6 6;ship 100 40 0 4 25;");
        z.book(0, 100, 6);
        check.is("at the second bar alone", z.close(1, 180, 25), 1);
        check.is("long behind", z.close(1, 250, 25), 0);
    }

    // 31
    private void aground() {
        TideGates x = gates("mean 500;bar 10 900 5 0 100;ship 1000 80 100 4 20;ship 1000 80 120 4 20 out;");
        x.book(0, 100, 10);
        x.book(1, 500, 10);
        check.is("none", x.aground(), 0);
        x.surge(-201);
        check.is("the one that keeps more", x.aground(), 2);
        x.surge(-221);
        check.is("both", x.aground(), 3);
        check.is("booked all the same", x.told(6), 3);
        x.load(0, 999);
        check.is("lighter", x.aground(), 2);
        x.undo();
        x.undo();
        x.undo();
        check.is("none", x.aground(), 0);
    }

    // 32
    private void print() {
        TideGates x = gates("mean 5;surge -9;bar 1 900 1 0 100;bar 1 200 1 0 100;ship 500 50 0 4 9;ship 100 50 0 4 9;");
        long sum = 900;
        sum = sum * 31 + 200;
        sum = ((sum * 31 + 500) * 31 - 1) * 31 - 1;
        long none = ((sum * 31 + 100) * 31 - 1) * 31 - 1;
        check.is("print", x.print(), none * 31 - 9);
        x.sound(1, 900);
        x.undo();
        x.book(1, 77, 5);
        long some = ((sum * 31 + 100) * 31 + 77) * 31 + 5;
        check.is("print", x.print(), some * 31 - 9);
        TideGates y = gates("mean 5;" + "bar 200 3000 1 0 100;".repeat(6) + "ship 2500 50 0 4 9;".repeat(6));
        long wraps = 0;
        for (int i = 0; i < 6; i++) {
            wraps = wraps * 31 + 3000;
        }
        for (int i = 0; i < 6; i++) {
            wraps = ((wraps * 31 + 2500) * 31 - 1) * 31 - 1;
        }
        check.is("wraps", y.print(), wraps * 31);
    }

    // 33
    private void status() {
        TideGates x = gates(STILL);
        for (int what = -2; what < 5; what++) {
            check.is("status " + what, x.status(what), what < 0 || what > 2 ? -1 : 0);
        }
        check.refuses("missing", () -> x.bar(1, 0), MISSING);
        check.refuses("missing", () -> x.window(0, 0, 10, 0, 5, 0), MISSING);
        check.refuses("missing", () -> x.order(1, 10, 0, 1), MISSING);
        check.refuses("number", () -> x.height(-1), NUMBER);
        check.refuses("number", () -> x.text(1), NUMBER);
        check.refuses("state", () -> x.cancel(0), STATE);
        x.fastest(0, 0, 0);
        Texts.tell(x, "x");
        for (int i = 0; i < 3; i++) {
            x.undo();
        }
        check.is("missing", x.status(0), 3);
        check.is("numbers", x.status(1), 2);
        check.is("states", x.status(2), 1);
        check.is("others", x.status(3), -1);
    }

    /** Of several exceptions the one told first; and a call that throws changes nothing. */
    private void firstException() {
        TideGates x = gates(STILL);
        x.book(0, 5, 10);
        check.refuses("number ahead of state", () -> x.book(0, 2001, 10), NUMBER);
        check.refuses("missing ahead of number", () -> x.book(1, 2001, 10), MISSING);
        check.refuses("missing ahead of state", () -> x.cancel(1), MISSING);
        long print = x.print();
        check.refuses("state", () -> x.book(0, 6, 10), STATE);
        check.refuses("number", () -> x.sound(0, 0), NUMBER);
        check.refuses("number", () -> x.load(0, 0), NUMBER);
        check.refuses("number", () -> x.surge(1000), NUMBER);
        check.is("nothing changed", x.print(), print);
        check.is("no act", x.told(8), 2);
    }
}
