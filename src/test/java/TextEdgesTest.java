import java.math.BigInteger;
import java.util.Arrays;

/** The sentences of the document that name edges of the tape and of texts (Terms, promises 2 to 4). */
public final class TextEdgesTest {
    private final Check check = new Check("TextEdgesTest");

    public static void main(String[] args) {
        TextEdgesTest test = new TextEdgesTest();
        test.highestFirst();
        test.fullTape();
        test.feedBehindText();
        test.textOf600();
        test.longFormula();
        test.mean();
        test.waveLimits();
        test.barLimits();
        test.shipLimits();
        test.mostNotBelowLeast();
        test.gapLimits();
        test.surgeLimits();
        test.surgeBelow0();
        test.sixAtMost();
        test.numberedAsTold();
        test.semicolons();
        test.onceEach();
        test.lieAndOut();
        test.formulaNumbers();
        test.formulaForms();
        test.brackets();
        test.digits();
        test.words();
        test.blanks();
        test.otherSigns();
        test.leastByte();
        test.firstInList();
        test.endsTooEarly();
        test.textLength();
        test.tellsAnew();
        test.countsBarsAndShips();
        test.faultLeavesAll();
        test.faultPlace();
        test.check.end();
    }

    private void fine(String text, int due) {
        TideGates x = new TideGates();
        check.is("text of " + text, Texts.tell(x, text), due);
        check.is("fault of " + text, x.fault(), -1);
        check.is("acts behind " + text, x.told(8), 1);
    }

    private void flaw(String text, int kind, int place) {
        TideGates x = new TideGates();
        check.is("text of " + text, Texts.tell(x, text), kind - 10);
        check.is("fault of " + text, x.fault(), place);
        check.is("acts behind " + text, x.told(8), 0);
        check.is("tape behind " + text, x.told(7), 0);
    }

    /** What a call reads back of a text. */
    private interface Back {
        int of(TideGates x);
    }

    /** The number that stands at the # of a text: its limits, those beyond them, and what is read back. */
    private void limits(String text, int from, int to, Back back) {
        int place = text.indexOf('#');
        for (int n : new int[] {from, from + 1, to - 1, to}) {
            if (n >= from && n <= to) {
                TideGates x = new TideGates();
                String told = text.replace("#", Integer.toString(n));
                check.isTrue("fine: " + told, Texts.tell(x, told) >= 0);
                check.is("fault of " + told, x.fault(), -1);
                check.is("read back of " + told, back.of(x), n);
            }
        }
        flaw(text.replace("#", Integer.toString(to + 1)), 2, place);
        if (from > 0) {
            flaw(text.replace("#", Integer.toString(from - 1)), 2, place);
            flaw(text.replace("#", "0"), 2, place);
        }
        flaw(text.replace("#", "2147483648"), 2, place);
        flaw(text.replace("#", Long.toString((1L << 32) + from)), 2, place);
        flaw(text.replace("#", new BigInteger("2").pow(64).add(BigInteger.valueOf(from)).toString()), 2, place);
        flaw(text.replace("#", "x"), 1, place);
        flaw(text.replace("#", "+1"), 1, place);
        flaw(text.replace("#", ";"), 1, place);
        flaw(text.substring(0, place), 1, place);
    }

    /** Likewise, where no "-" can stand: 0 is the least that can be written. */
    private void limitsFrom0(String text, int to, Back back) {
        limits(text, 0, to, back);
        flaw(text.replace("#", "-1"), 1, text.indexOf('#'));
        flaw(text.replace("#", "-0"), 1, text.indexOf('#'));
    }

    // ---- the tape

    private void highestFirst() {
        check.says("Twenty bytes come on the TAPE, of each number the highest first: how many there are");
        for (int place = 0; place < 20; place++) {
            byte[] bytes = new byte[20];
            Arrays.fill(bytes, (byte) ' ');
            bytes[place] = 'x';
            int[] n = new int[5];
            for (int i = 0; i < 20; i++) {
                n[i / 4] |= bytes[i] << 24 - 8 * (i % 4);
            }
            TideGates x = new TideGates();
            check.is("feed", x.feed(n[0], n[1], n[2], n[3], n[4]), 20);
            check.is("a byte that can't stand there", x.text(20), -9);
            check.is("at its place", x.fault(), place);
        }
        // 32 in every byte is 0x20202020; with the highest byte 255 the number is below 0.
        TideGates x = new TideGates();
        check.is("feed", x.feed(0x20202020, 0x202020ff, 0xff202020, 0, 0), 20);
        x.text(20);
        check.is("the lowest of the second", x.fault(), 7);
        x.feed(0x20202020, 0x20202020, 0xff202020, 0, 0);
        x.text(20);
        check.is("the highest of the third", x.fault(), 8);
    }

    private void fullTape() {
        check.says("NONE, doing nothing, if there would be more than 600");
        TideGates x = new TideGates();
        for (int i = 1; i <= 30; i++) {
            check.is("feed " + i, x.feed(0x20202020, 0x20202020, 0x20202020, 0x20202020, i == 30 ? 'x' : 0x20202020),
                    20 * i);
        }
        for (int i = 0; i < 3; i++) {
            check.is("no room", x.feed('y', 'y', 'y', 'y', 'y'), -1);
            check.is("as many as before", x.told(7), 600);
        }
        check.is("no refusal", x.status(0) + x.status(1) + x.status(2), 0);
        check.is("its bytes are those from before", x.text(600), -9);
        check.is("its bytes are those from before", x.fault(), 596);
        TideGates y = new TideGates();
        for (int i = 1; i <= 29; i++) {
            y.feed(0, 0, 0, 0, 0);
        }
        check.is("580", y.told(7), 580);
        check.is("just 600", y.feed(0, 0, 0, 0, 0), 600);
    }

    private void feedBehindText() {
        check.says("The first n bytes of the TAPE (all of it is empty then)");
        TideGates x = new TideGates();
        Texts.feed(x, "mean 5;gap 7;surge 9;");
        check.is("40 bytes", x.told(7), 40);
        check.is("seven of them", x.text(7), 0);
        check.is("empty", x.told(7), 0);
        check.is("gap was behind them", x.told(4), 15);
        check.is("from the first place on again", x.feed(0x6d65616e, 0x20363b20, 0x20202020, 0x20202020, 0x20202020),
                20);
        check.is("text", x.text(20), 0);
        check.is("mean", x.told(3), 6);
        Texts.feed(x, "mean 5;gap 7;surge 9;");
        check.is("none of them", x.text(0), -9);
        check.is("empty all the same", x.told(7), 0);
        Texts.feed(x, "mean 5;gap 7;surge 9;");
        check.is("with a fault", x.text(6), -9);
        check.is("empty all the same", x.told(7), 0);
    }

    // ---- texts as a whole

    private void textOf600() {
        check.says("A TEXT has up to 600 bytes");
        String blanks = " ".repeat(587);
        String text = "mean 5;" + blanks + "gap 7;";
        TideGates x = new TideGates();
        check.is("600 bytes", Texts.tell(x, text), 0);
        check.is("gap", x.told(4), 7);
        flaw("mean 5;" + blanks + "gap 7 ", 1, 600);
        flaw("mean 5;" + blanks + "gap 7x", 1, 599);
        flaw("mean 5;" + " ".repeat(589) + "241;", 1, 596);
        Texts.feed(x, text);
        check.refuses("601 bytes", () -> x.text(601), IllegalArgumentException.class);
        check.is("599 bytes", x.text(599), -9);
        check.is("one too few", x.fault(), 599);
        check.is("gap stays", x.told(4), 7);
    }

    private void longFormula() {
        String head = "mean 0;bar 0 100 1 0 100;ship 100 40 0 4 4;squat ";
        int room = 600 - head.length() - 1;
        String ones = "1+".repeat(room / 2) + "1";
        TideGates x = Texts.gates(head + ones.substring(0, room % 2 == 1 ? room : room - 1) + ";");
        check.is("sum of all", x.squat(0, 0, 0, 4), (room + 1) / 2);
        // As many open ones as there can be: in each bracket a sum and a product wait.
        TideGates y = Texts.gates(head + "1+2*(3+4*(5+6*(7+8*(9+1*2))));");
        check.is("all waiting", y.squat(0, 0, 0, 4), 1 + 2 * (3 + 4 * (5 + 6 * (7 + 8 * 11))));
    }

    // ---- limits of numbers

    private void mean() {
        check.says("MEAN (0 to 1,000)");
        limitsFrom0("mean #;", 1000, x -> x.told(3));
        check.says("\"mean\" N \";\" {");
        flaw("gap 5;mean 5;", 1, 0);
        flaw("mean 5;mean 5;", 1, 7);
        flaw(";", 1, 0);
        fine("mean 5;", 0);
    }

    private void waveLimits() {
        check.says("AMPLITUDE (0 to 400), PERIOD (60 to 2,000), LAG (0 to 2,000)");
        limitsFrom0("mean 5;wave # 60 7;", 400, x -> x.wave(0, 0));
        limits("mean 5;wave 7 # 7;", 60, 2000, x -> x.wave(0, 1));
        limitsFrom0("mean 5;wave 7 60 #;", 2000, x -> x.wave(0, 2));
        flaw("mean 5;wave 7 60 7 7;", 1, 19);
        flaw("mean 5;wave 7 60 7 lie;", 1, 19);
    }

    private void barLimits() {
        check.says("how far it is behind the one ahead, or from the sea (0 to 200), DEPTH (100 to 3,000),"
                + " LENGTH (1 to 20), DELAY (0 to 300), FACTOR (50 to 150)");
        limitsFrom0("mean 5;bar # 100 1 0 50;", 200, x -> x.bar(0, 0));
        limits("mean 5;bar 1 # 1 0 50;", 100, 3000, x -> x.bar(0, 1));
        limits("mean 5;bar 1 100 # 0 50;", 1, 20, x -> x.bar(0, 2));
        limitsFrom0("mean 5;bar 1 100 1 # 50;", 300, x -> x.bar(0, 3));
        limits("mean 5;bar 1 100 1 0 #;", 50, 150, x -> x.bar(0, 4));
        flaw("mean 5;bar 1 100 1 0 50 1;", 1, 24);
    }

    private void shipLimits() {
        check.says("DRAUGHT (100 to 2,500), BLOCK (40 to 95), KEEP (0 to 300), the LEAST, the MOST SPEED (4 to 25;");
        limits("mean 5;ship # 40 0 4 4;", 100, 2500, x -> x.ship(0, 0));
        limits("mean 5;ship 100 # 0 4 4;", 40, 95, x -> x.ship(0, 1));
        limitsFrom0("mean 5;ship 100 40 # 4 4;", 300, x -> x.ship(0, 2));
        limits("mean 5;ship 100 40 0 # 25;", 4, 25, x -> x.ship(0, 3));
        limits("mean 5;ship 100 40 0 4 #;", 4, 25, x -> x.ship(0, 4));
        flaw("mean 5;ship 100 40 0 4 4 1;", 1, 25);
    }

    private void mostNotBelowLeast() {
        check.says("the MOST not below the LEAST)");
        limits("mean 5;ship 100 40 0 10 #;", 10, 25, x -> x.ship(0, 4));
        limits("mean 5;ship 100 40 0 25 #;", 25, 25, x -> x.ship(0, 4));
        flaw("mean 5;ship 100 40 0 10 9;", 2, 24);
        flaw("mean 5;ship 100 40 0 5 4 out;", 2, 23);
        // Of a LEAST that is none such already, its own place.
        flaw("mean 5;ship 100 40 0 26 25;", 2, 21);
        flaw("mean 5;ship 100 40 0 3 2;", 2, 21);
        // Each ship by its own LEAST.
        fine("mean 5;ship 100 40 0 20 25;ship 100 40 0 4 5;", 2);
        flaw("mean 5;ship 100 40 0 4 5;ship 100 40 0 20 19;", 2, 42);
    }

    private void gapLimits() {
        check.says("GAP (0 to 240; 15 without)");
        limitsFrom0("mean 5;gap #;", 240, x -> x.told(4));
        check.is("without", Texts.gates("mean 5;").told(4), 15);
        check.is("ahead of any text", new TideGates().told(4), 15);
    }

    private void surgeLimits() {
        check.says("SURGE (0 to 300 either way; 0 without)");
        limits("mean 5;surge #;", 0, 300, x -> x.told(5));
    }

    private void surgeBelow0() {
        check.says("\"surge\" [ \"-\" ] N");
        check.is("-0", Texts.gates("mean 5;surge -0;").told(5), 0);
        check.is("-1", Texts.gates("mean 5;surge -1;").told(5), -1);
        check.is("-300", Texts.gates("mean 5;surge -300;").told(5), -300);
        check.is("- 300", Texts.gates("mean 5;surge  -  300 ;").told(5), -300);
        flaw("mean 5;surge -301;", 2, 14);
        flaw("mean 5;surge - 301;", 2, 15);
        flaw("mean 5;surge --1;", 1, 14);
        flaw("mean 5;surge -;", 1, 14);
        flaw("mean 5;surge 1-;", 1, 14);
        flaw("mean 5;surge +1;", 1, 13);
        check.is("without", Texts.gates("mean 5;").told(5), 0);
    }

    // ---- how many of them

    private static final String WAVE = "wave 1 60 0;";
    private static final String BAR = "bar 0 100 1 0 50;";
    private static final String SHIP = "ship 100 40 0 4 4;";

    private void sixAtMost() {
        check.says("a WAVE (6 at most)");
        check.says("a BAR (6 at most)");
        check.says("a SHIP (6 at most)");
        check.says("3 a seventh WAVE, BAR, SHIP (by its word)");
        for (String thing : new String[] {WAVE, BAR, SHIP}) {
            String six = "mean 5;" + thing.repeat(6);
            int due = thing.equals(WAVE) ? 0 : 6;
            fine("mean 5;" + thing.repeat(5), due == 0 ? 0 : 5);
            fine(six, due);
            flaw(six + thing, 3, six.length());
            flaw(six + "   " + thing, 3, six.length() + 3);
            flaw(six + thing + thing, 3, six.length());
            // What stands behind its word does not matter: its own byte is less.
            flaw(six + thing.substring(0, thing.indexOf(' ')), 3, six.length());
            flaw(six + thing.substring(0, thing.indexOf(' ')) + " 9999 x", 3, six.length());
            // It is no seventh word if more letters stand there.
            flaw(six + thing.substring(0, thing.indexOf(' ')) + "s 1;", 1, six.length());
            // A fault ahead of it is told first, one behind it is not.
            flaw(six + "gap 241;" + thing, 2, six.length() + 4);
            flaw(six + thing + "gap 241;", 3, six.length());
        }
        String full = "mean 5;" + (WAVE + BAR + SHIP).repeat(6);
        fine(full, 12);
        flaw(full + WAVE, 3, full.length());
        flaw(full + BAR, 3, full.length());
        flaw(full + SHIP, 3, full.length());
        fine(full + "gap 1;surge 1;squat 1;", 12);
        TideGates x = Texts.gates(full);
        check.is("six of each", x.told(0) * 100 + x.told(1) * 10 + x.told(2), 666);
        check.is("the last wave", x.wave(5, 1), 60);
        check.is("the last bar", x.bar(5, 1), 100);
        check.is("the last ship", x.ship(5, 0), 100);
        check.refuses("no seventh", () -> x.wave(6, 0), java.util.NoSuchElementException.class);
        check.refuses("no seventh", () -> x.bar(6, 0), java.util.NoSuchElementException.class);
        check.refuses("no seventh", () -> x.ship(6, 0), java.util.NoSuchElementException.class);
        // A text counts its own alone.
        check.is("six again", Texts.tell(x, full), 12);
    }

    private void numberedAsTold() {
        check.says("WAVES, BARS, SHIPS are numbered each from 0 on as told.");
        TideGates x = Texts.gates("mean 5;ship 101 41 1 5 6;bar 1 101 2 3 51;wave 1 61 2;bar 2 102 3 4 52 lie;"
                + "ship 102 42 2 6 7 out;wave 2 62 3;wave 3 63 4;ship 103 43 3 7 8;bar 3 103 4 5 53;");
        for (int i = 0; i < 3; i++) {
            check.is("wave", x.wave(i, 0) * 10000 + x.wave(i, 1) * 10 + x.wave(i, 2), 10612 + i * 10011);
            check.is("far", x.bar(i, 0), 1 + i);
            check.is("depth", x.bar(i, 1), 101 + i);
            check.is("length", x.bar(i, 2), 2 + i);
            check.is("delay", x.bar(i, 3), 3 + i);
            check.is("factor", x.bar(i, 4), 51 + i);
            check.is("lie", x.bar(i, 5), i == 1 ? 1 : 0);
            check.is("draught", x.ship(i, 0), 101 + i);
            check.is("block", x.ship(i, 1), 41 + i);
            check.is("keep", x.ship(i, 2), 1 + i);
            check.is("least", x.ship(i, 3), 5 + i);
            check.is("most", x.ship(i, 4), 6 + i);
            check.is("out", x.ship(i, 5), i == 1 ? 1 : 0);
        }
    }

    private void semicolons() {
        check.says(", each with a \";\" }");
        for (String one : new String[] {"wave 1 60 0", "bar 0 100 1 0 50", "bar 0 100 1 0 50 lie", "ship 100 40 0 4 4",
            "ship 100 40 0 4 4 out", "squat 1", "squat (1)", "gap 1", "surge 1", "surge -1"}) {
            fine("mean 5;" + one + ";", one.startsWith("bar") || one.startsWith("ship") ? 1 : 0);
            flaw("mean 5;" + one, 1, 7 + one.length());
            flaw("mean 5;" + one + ",", 1, 7 + one.length());
            flaw("mean 5;" + one + " gap 5;", 1, 8 + one.length());
            flaw("mean 5;" + one + ";;", 1, 8 + one.length());
        }
    }

    private void onceEach() {
        check.says("\"squat\", \"gap\", \"surge\" once each.");
        check.says("\"squat\", \"gap\", \"surge\" a second time, by its word");
        String[] all = {"squat 1;", "gap 1;", "surge 1;"};
        fine("mean 5;squat 1;gap 1;surge 1;", 0);
        fine("mean 5;surge 1;gap 1;squat 1;", 0);
        for (String one : all) {
            fine("mean 5;" + one, 0);
            flaw("mean 5;" + one + one, 1, 7 + one.length());
            flaw("mean 5;" + one + "  " + one, 1, 9 + one.length());
            // By its word, whatever stands behind it; even a number that is none such.
            String word = one.substring(0, one.indexOf(' '));
            flaw("mean 5;" + one + word + " 99999;", 1, 7 + one.length());
            flaw("mean 5;" + one + word, 1, 7 + one.length());
            for (String other : all) {
                if (!other.equals(one)) {
                    flaw("mean 5;" + one + other + WAVE + one, 1, 7 + one.length() + other.length() + WAVE.length());
                }
            }
            // Told once in each of two texts is once each.
            TideGates x = Texts.gates("mean 5;" + one);
            check.is("once in the next text", Texts.tell(x, "mean 5;" + one), 0);
        }
        // Even one that tells what holds without it counts.
        flaw("mean 5;gap 15;gap 15;", 1, 14);
        flaw("mean 5;surge 0;surge 0;", 1, 15);
        flaw("mean 5;squat 0;squat 0;", 1, 15);
    }

    private void lieAndOut() {
        check.says("(\"lie\": ahead of it one can LIE, whichever way one comes)");
        TideGates x = Texts.gates("mean 5;bar 0 100 1 0 50 lie;bar 0 100 1 0 50;ship 100 40 0 4 4 out;"
                + "ship 100 40 0 4 4;");
        check.is("lie", x.bar(0, 5) * 10 + x.bar(1, 5), 10);
        check.is("out", x.ship(0, 5) * 10 + x.ship(1, 5), 10);
        // Told anew in the same places without them.
        Texts.tell(x, "mean 5;bar 0 100 1 0 50;bar 0 100 1 0 50lie;ship 100 40 0 4 4;ship 100 40 0 4 4out;");
        check.is("lie", x.bar(0, 5) * 10 + x.bar(1, 5), 1);
        check.is("out", x.ship(0, 5) * 10 + x.ship(1, 5), 1);
        flaw("mean 5;bar 0 100 1 0 50 out;", 1, 24);
        flaw("mean 5;bar 0 100 1 0 50 lie lie;", 1, 28);
        flaw("mean 5;bar 0 100 1 0 50 lielie;", 1, 24);
        flaw("mean 5;bar 0 100 1 0 50 li;", 1, 24);
        flaw("mean 5;bar 0 100 1 0 lie;", 1, 21);
        flaw("mean 5;bar lie 0 100 1 0 50;", 1, 11);
        check.says("\"out\": it goes out, else in");
        flaw("mean 5;ship 100 40 0 4 4 lie;", 1, 25);
        flaw("mean 5;ship 100 40 0 4 4 out out;", 1, 29);
        flaw("mean 5;ship 100 40 0 4 4 outs;", 1, 25);
        flaw("mean 5;ship 100 40 0 4 out;", 1, 23);
        flaw("mean 5;out;", 1, 7);
        flaw("mean 5;lie;", 1, 7);
    }

    // ---- formulas

    private static final String ONE = "mean 0;bar 0 100 1 0 100;ship 100 40 0 4 4;squat ";

    private void formulaNumbers() {
        check.says("N (0 to 9,999)");
        limitsFrom0(ONE + "#;", 9999, x -> x.squat(0, 0, 0, 4));
        limitsFrom0(ONE + "0+(#);", 9999, x -> x.squat(0, 0, 0, 4));
        flaw("mean 5;squat 1+10000;", 2, 15);
        flaw("mean 5;squat (10000+(((((", 2, 14);
    }

    private void formulaForms() {
        check.says("E: T { ( \"+\" | \"-\" ) T }. T: U { ( \"*\" | \"/\" ) U }. U: \"(\" E \")\"");
        for (String fine : new String[] {"1", "speed", "block", "draught", "water", "(1)", "1+1", "1-1", "1*1", "1/1",
            "speed*(block+draught)/water-1", "( ( 1 ) )", "1 + ( 2 * 3 )", "2speed".substring(1)}) {
            fine("mean 5;squat " + fine + ";", 0);
        }
        flaw("mean 5;squat ;", 1, 13);
        flaw("mean 5;squat +1;", 1, 13);
        flaw("mean 5;squat -1;", 1, 13);
        flaw("mean 5;squat *1;", 1, 13);
        flaw("mean 5;squat /1;", 1, 13);
        flaw("mean 5;squat );", 1, 13);
        flaw("mean 5;squat ();", 1, 14);
        flaw("mean 5;squat (-1);", 1, 14);
        flaw("mean 5;squat (1;", 1, 15);
        flaw("mean 5;squat (1));", 1, 16);
        flaw("mean 5;squat 1);", 1, 14);
        flaw("mean 5;squat 1+;", 1, 15);
        flaw("mean 5;squat 1*;", 1, 15);
        flaw("mean 5;squat 1+-1;", 1, 15);
        flaw("mean 5;squat 1**1;", 1, 15);
        flaw("mean 5;squat 1*/1;", 1, 15);
        flaw("mean 5;squat 1 1;", 1, 15);
        flaw("mean 5;squat 1speed;", 1, 14);
        flaw("mean 5;squat speed1;", 1, 18);
        flaw("mean 5;squat speed block;", 1, 19);
        flaw("mean 5;squat 1(1);", 1, 14);
        flaw("mean 5;squat (1)(1);", 1, 16);
        flaw("mean 5;squat (1)1;", 1, 16);
        flaw("mean 5;squat speed(1);", 1, 18);
        flaw("mean 5;squat keep;", 1, 13);
        flaw("mean 5;squat mean;", 1, 13);
        flaw("mean 5;squat speeds;", 1, 13);
        flaw("mean 5;squat spee;", 1, 13);
        flaw("mean 5;squat 1%1;", 1, 14);
        flaw("mean 5;squat 1.5;", 1, 14);
    }

    private void brackets() {
        check.says("4 a \"(\" within four others (by it)");
        fine("mean 5;squat ((((1))));", 0);
        flaw("mean 5;squat (((((1)))));", 4, 17);
        flaw("mean 5;squat ((((((1))))));", 4, 17);
        flaw("mean 5;squat ( ( ( (  (1)))));", 4, 22);
        flaw("mean 5;squat (((((", 4, 17);
        flaw("mean 5;squat ((((((", 4, 17);
        flaw("mean 5;squat ((((", 1, 17);
        // Those that are closed are not round it any more.
        fine("mean 5;squat ((((1))))+((((1))))*((((1))));", 0);
        fine("mean 5;squat (1)+(1)+(1)+(1)+(1)+(1);", 0);
        fine("mean 5;squat (((1)+(1)*(1))/(1))-(1);", 0);
        fine("mean 5;squat (((1+(1)+(1)*(1))));", 0);
        flaw("mean 5;squat ((((1)+(((1))))));", 4, 21);
        flaw("mean 5;squat 1+2*(3+4*(5-6/(7*(8+(9)))));", 4, 33);
        flaw("mean 5;squat ((((1*(2)))));", 4, 19);
        // A flaw ahead of it is told instead.
        flaw("mean 5;squat (((10000+((1", 2, 16);
    }

    // ---- numbers, words, blanks

    private void digits() {
        check.says("2 a number that is none such");
        flaw("mean 1001;", 2, 5);
        flaw("mean   1001;", 2, 7);
        flaw("mean 5;wave 1 60 2001;", 2, 17);
        fine("mean 5;wave 1 60 2000;", 0);
        check.says("N: digits, as many as stand there");
        TideGates x = new TideGates();
        check.is("zeros ahead", Texts.tell(x, "mean " + "0".repeat(590) + "1000;"), 0);
        check.is("zeros ahead", x.told(3), 1000);
        flaw("mean " + "0".repeat(590) + "1001;", 2, 5);
        flaw("mean " + "9".repeat(594) + ";", 2, 5);
        flaw("mean 1" + "0".repeat(40) + ";", 2, 5);
        fine("mean " + "0".repeat(594) + ";", 0);
        flaw("mean 1 000;", 1, 7);
        flaw("mean 1,000;", 1, 6);
        flaw("mean 0x1;", 1, 6);
        flaw("mean 5a;", 1, 6);
        flaw("mean 1001a;", 2, 5);
        flaw("mean /;", 1, 5);
        flaw("mean :;", 1, 5);
        flaw("mean 5/;", 1, 6);
        flaw("mean 5:;", 1, 6);
    }

    private void words() {
        check.says("words: small letters, as many as stand there");
        flaw("mea 5;", 1, 0);
        flaw("means 5;", 1, 0);
        flaw("meanmean 5;", 1, 0);
        flaw("me an 5;", 1, 0);
        flaw("Mean 5;", 1, 0);
        flaw("mEan 5;", 1, 0);
        flaw("meaN 5;", 1, 0);
        flaw("meanA5;", 1, 4);
        flaw("mean`5;", 1, 4);
        flaw("mean{5;", 1, 4);
        flaw("meana5;", 1, 0);
        flaw("meanz5;", 1, 0);
        fine("mean5;wave1 60 0;bar0 100 1 0 50lie;ship100 40 0 4 4out;gap5;surge5;squat5;", 2);
        for (String word : new String[] {"wave", "bar", "ship", "squat", "gap", "surge"}) {
            flaw("mean 5;" + word + "a 1;", 1, 7);
            flaw("mean 5;" + word + "z 1;", 1, 7);
            flaw("mean 5;" + word.substring(1) + " 1;", 1, 7);
            flaw("mean 5;" + word.substring(0, word.length() - 1) + " 1;", 1, 7);
            flaw("mean 5;" + word.toUpperCase() + " 1;", 1, 7);
        }
    }

    private void blanks() {
        check.says("blanks (32) may stand ahead of all words, numbers, signs, and at the end");
        TideGates x = new TideGates();
        check.is("all over", Texts.tell(x, "  mean  5  ;  wave  1  60  2  ;  bar  1  100  2  3  50  lie  ;"
                + "  ship  100  40  1  4  5  out  ;  gap  6  ;  surge  -  7  ;"
                + "  squat  (  1  +  speed  )  *  2  -  4  /  2  ;    "), 2);
        check.is("mean", x.told(3), 5);
        check.is("surge", x.told(5), -7);
        check.is("squat", x.squat(0, 0, 0, 9), 18);
        check.is("none at all", Texts.tell(x, "mean5;wave1 60 2;bar1 100 2 3 50lie;ship100 40 1 4 5out;gap6;surge-7;"
                + "squat(1+speed)*2-4/2;"), 2);
        check.is("squat", x.squat(0, 0, 0, 9), 18);
        fine("mean 5;" + " ".repeat(593), 0);
        flaw(" ".repeat(600), 1, 600);
        flaw(" ", 1, 1);
    }

    private void otherSigns() {
        check.says("1 what can't stand there");
        for (int sign = 0; sign < 256; sign++) {
            if (sign != ' ') {
                TideGates x = new TideGates();
                check.is("sign " + sign, Texts.tell(x, "mean 5; " + (char) sign), -9);
                check.is("sign " + sign, x.fault(), 8);
            }
            if (sign != ';' && sign != ' ' && (sign < '0' || sign > '9')) {
                flaw("mean 5" + (char) sign, 1, 6);
            }
        }
        flaw("mean 5;;", 1, 7);
        flaw("mean 5;5;", 1, 7);
        flaw("mean 5;gap 5;;", 1, 13);
        flaw("mean 5;gap 5 gap", 1, 13);
        flaw("mean 5 gap 5;", 1, 7);
        flaw("mean;", 1, 4);
        flaw("mean mean;", 1, 5);
    }

    // ---- which fault, at which byte

    private void leastByte() {
        check.says("of several the one whose first byte is least");
        flaw("mean 1001;mean 5;", 2, 5);
        flaw("mean 1001", 2, 5);
        flaw("mean 1001 x", 2, 5);
        flaw("x 1001;", 1, 0);
        flaw("mean 5;gap 241;surge 301;", 2, 11);
        flaw("mean 5;gap x;surge 301;", 1, 11);
        flaw("mean 5;bar 201 99 0 301 49;", 2, 11);
        flaw("mean 5;bar 200 99 0 301 49;", 2, 15);
        flaw("mean 5;bar 200 100 0 301 49;", 2, 19);
        flaw("mean 5;bar 200 100 1 301 49;", 2, 21);
        flaw("mean 5;bar 200 100 1 300 49;", 2, 25);
        flaw("mean 5;bar 200 100 1 300 49 x;", 2, 25);
        flaw("mean 5;squat 10000+(((((1", 2, 13);
        flaw("mean 5;squat (((((10000", 4, 17);
        flaw("mean 5;squat 1 (((((10000", 1, 15);
        flaw("mean 5;squat 1;squat 10000;", 1, 15);
        flaw("mean 5;" + WAVE.repeat(6) + "gap 5;gap 5;wave", 1, 7 + 6 * WAVE.length() + 6);
        flaw("mean 5;" + WAVE.repeat(6) + "gap 5;wave gap", 3, 7 + 6 * WAVE.length() + 6);
    }

    private void firstInList() {
        check.says("of one byte the first in this list");
        // A fifth "(" where none can stand at all; a number that is none such where none can stand.
        flaw("mean 5;squat ((((1(", 1, 18);
        flaw("mean 5;squat ((((speed (1", 1, 23);
        flaw("mean 5;squat ((((1)(", 1, 19);
        flaw("mean 5 1001;", 1, 7);
        flaw("mean 5;gap 5 241;", 1, 13);
        flaw("mean 5;10000;", 1, 7);
        flaw("mean 5;squat 1 10000;", 1, 15);
        flaw("mean 5;squat (1)10000;", 1, 16);
        flaw("mean 5;surge 5 301;", 1, 15);
        flaw("1001", 1, 0);
        // A seventh where none can stand.
        flaw("mean 5;" + SHIP.repeat(6) + "gap ship", 1, 7 + 6 * SHIP.length() + 4);
        flaw("mean 5;" + SHIP.repeat(6) + "gap 5 ship", 1, 7 + 6 * SHIP.length() + 6);
    }

    private void endsTooEarly() {
        check.says("(at the length, if the text ends too early;");
        flaw("", 1, 0);
        flaw("   ", 1, 3);
        flaw("mean", 1, 4);
        flaw("mean ", 1, 5);
        flaw("mean 5", 1, 6);
        flaw("mean 5   ", 1, 9);
        flaw("mean 5;wave", 1, 11);
        flaw("mean 5;wave 1 60", 1, 16);
        flaw("mean 5;wave 1 60 2", 1, 18);
        flaw("mean 5;bar 0 100 1 0 50", 1, 23);
        flaw("mean 5;bar 0 100 1 0 50 lie", 1, 27);
        flaw("mean 5;ship 100 40 0 4", 1, 22);
        flaw("mean 5;ship 100 40 0 4 4  ", 1, 26);
        flaw("mean 5;ship 100 40 0 4 4 out ", 1, 29);
        flaw("mean 5;gap", 1, 10);
        flaw("mean 5;gap 5", 1, 12);
        flaw("mean 5;surge", 1, 12);
        flaw("mean 5;surge -", 1, 14);
        flaw("mean 5;surge -5", 1, 15);
        flaw("mean 5;squat", 1, 12);
        flaw("mean 5;squat 1", 1, 14);
        flaw("mean 5;squat 1+", 1, 15);
        flaw("mean 5;squat (1", 1, 15);
        flaw("mean 5;squat (1 ", 1, 16);
        flaw("mean 5;squat (1)", 1, 16);
        flaw("mean 5;squat speed*", 1, 19);
        // The length is n's, not the tape's: what stands on the tape behind it is not seen.
        TideGates x = new TideGates();
        Texts.feed(x, "mean 5;gap 15;");
        x.text(12);
        check.is("cut in a number", x.fault(), 12);
        Texts.feed(x, "mean 5;bar 0 100 1 0 50 lie;");
        x.text(26);
        check.is("cut in a word, which is none then", x.fault(), 24);
        Texts.feed(x, "mean 5;gapx");
        check.is("cut behind a word", x.text(10), -9);
        check.is("cut behind a word", x.fault(), 10);
        Texts.feed(x, "mean 1001;");
        x.text(8);
        check.is("cut behind 100", x.fault(), 8);
    }

    // ---- text() and fault()

    private void textLength() {
        check.says("IllegalArgumentException: n is not 0 to the TAPE's bytes (it stays)");
        TideGates x = new TideGates();
        check.refuses("1 of none", () -> x.text(1), IllegalArgumentException.class);
        check.refuses("-1", () -> x.text(-1), IllegalArgumentException.class);
        check.refuses("least", () -> x.text(Integer.MIN_VALUE), IllegalArgumentException.class);
        check.is("0 of none", x.text(0), -9);
        Texts.feed(x, "mean 5;");
        check.refuses("21 of 20", () -> x.text(21), IllegalArgumentException.class);
        check.refuses("greatest", () -> x.text(Integer.MAX_VALUE), IllegalArgumentException.class);
        check.refuses("-1", () -> x.text(-1), IllegalArgumentException.class);
        check.is("the tape stays", x.told(7), 20);
        check.is("six refused", x.status(1), 6);
        check.is("no others", x.status(0) + x.status(2), 0);
        check.is("as it was", x.text(7), 0);
        check.is("as it was", x.told(3), 5);
        Texts.feed(x, "mean 6;             ");
        check.is("20 of 20", x.text(20), 0);
        check.is("mean", x.told(3), 6);
    }

    private void tellsAnew() {
        check.says("tell all anew (nobody is BOOKED)");
        String text = "mean 500;wave 9 60 0;bar 10 900 5 0 100;ship 1000 80 100 4 20;ship 1000 80 100 4 20;gap 9;"
                + "surge -5;squat 7;";
        TideGates x = Texts.gates(text);
        String fresh = Look.told(x);
        x.book(0, 5, 10);
        x.book(1, 500, 10);
        x.sound(0, 901);
        x.load(1, 999);
        x.surge(6);
        check.is("both booked", x.told(6), 3);
        check.is("the same text", Texts.tell(x, text), 3);
        check.isTrue("all as told", Look.told(x).equals(fresh));
        check.is("nobody is booked", x.told(6), 0);
        check.is("start", x.ship(0, 6), -1);
        check.is("speed", x.ship(0, 7), -1);
        // What is not told any more is as without it.
        Texts.tell(x, "mean 500;bar 10 900 5 0 100;ship 1000 80 100 4 20;");
        check.is("no formula", x.squat(0, 0, 0, 10), 80);
        check.is("gap, surge, waves", x.told(4) * 100 + x.told(5) * 10 + x.told(0), 1500);
        x.book(0, 5, 10);
        Texts.tell(x, "mean 3;");
        check.isTrue("as in a new object", Look.told(x).equals(Look.told(Texts.gates("mean 3;"))));
        Texts.tell(x, "mean 0;ship 1000 80 100 4 20;");
        check.is("nobody is booked", x.told(6), 0);
    }

    private void countsBarsAndShips() {
        check.says("how many BARS and SHIPS");
        for (int bars = 0; bars <= 6; bars++) {
            for (int ships = 0; ships <= 6; ships++) {
                fine("mean 5;" + WAVE.repeat(6 - bars) + BAR.repeat(bars) + SHIP.repeat(ships), bars + ships);
            }
        }
    }

    private void faultLeavesAll() {
        check.says("or the FAULT less 10 (all but the TAPE stays)");
        TideGates x = Texts.gates("mean 500;wave 9 60 0;bar 10 900 5 0 100;ship 1000 80 100 4 20;gap 9;surge -5;"
                + "squat 7;");
        x.book(0, 5, 10);
        x.surge(6);
        String before = Look.told(x);
        String[] flawed = {"x", "mean 1001;", "mean 0;" + WAVE.repeat(7), "mean 0;squat (((((1", "mean 7;gap 3;surge 4;"
            + "squat 5;" + WAVE + BAR + SHIP + "x", ""};
        int[] due = {-9, -8, -7, -6, -9, -9};
        for (int i = 0; i < flawed.length; i++) {
            check.is("fault less 10", Texts.tell(x, flawed[i]), due[i]);
            check.isTrue("all stays", Look.told(x).equals(before));
            check.is("the tape is empty", x.told(7), 0);
            check.is("no act", x.told(8), 3);
        }
        check.is("no refusal", x.status(0) + x.status(1) + x.status(2), 0);
        check.is("undo takes the surge back", x.undo(), 2);
        check.is("undo takes the surge back", x.told(5), -5);
    }

    private void faultPlace() {
        check.says("The place of the FAULT of the latest text() that threw nothing; NONE without one, and ahead of"
                + " any.");
        TideGates x = new TideGates();
        check.is("ahead of any", x.fault(), -1);
        check.refuses("one that throws", () -> x.text(1), IllegalArgumentException.class);
        check.is("ahead of any that threw nothing", x.fault(), -1);
        Texts.tell(x, "y");
        check.is("at 0", x.fault(), 0);
        check.is("asked again", x.fault(), 0);
        Texts.tell(x, "mean 5");
        check.is("of the latest", x.fault(), 6);
        check.refuses("one that throws", () -> x.text(-1), IllegalArgumentException.class);
        check.is("stays", x.fault(), 6);
        x.feed(1, 2, 3, 4, 5);
        x.surge(5);
        x.undo();
        check.is("nothing else touches it", x.fault(), 6);
        x.text(0);
        check.is("an empty one", x.fault(), 0);
        Texts.tell(x, "mean 5;");
        check.is("without one", x.fault(), -1);
        check.refuses("one that throws", () -> x.text(1), IllegalArgumentException.class);
        check.is("stays", x.fault(), -1);
        x.undo();
        check.is("a text taken back is the latest all the same", x.fault(), -1);
        Texts.tell(x, " ".repeat(600));
        check.is("at 600", x.fault(), 600);
    }
}
