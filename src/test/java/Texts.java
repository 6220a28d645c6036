import java.nio.charset.StandardCharsets;
import java.util.Random;

/** Texts for tests: put on a tape, and made up by a seed. */
final class Texts {
    private Texts() {
    }

    /** The five numbers of one feed() from a place in a text on; zeros behind its end. */
    static int[] feedOf(String text, int from) {
        byte[] bytes = text.getBytes(StandardCharsets.ISO_8859_1);
        int[] numbers = new int[5];
        for (int i = 0; i < 20; i++) {
            int b = from + i < bytes.length ? bytes[from + i] & 255 : 0;
            numbers[i / 4] = numbers[i / 4] << 8 | b;
        }
        return numbers;
    }

    static void feed(TideGates gates, String text) {
        for (int from = 0; from < text.length(); from += 20) {
            int[] n = feedOf(text, from);
            gates.feed(n[0], n[1], n[2], n[3], n[4]);
        }
    }

    static int tell(TideGates gates, String text) {
        feed(gates, text);
        return gates.text(text.length());
    }

    static TideGates gates(String text) {
        TideGates gates = new TideGates();
        if (tell(gates, text) < 0) {
            throw new IllegalStateException("a flaw at " + gates.fault() + " of " + text);
        }
        return gates;
    }

    private static int in(Random random, int from, int to) {
        int way = random.nextInt(12);
        return way == 0 ? from : way == 1 ? to : from + random.nextInt(to - from + 1);
    }

    private static String blanks(Random random) {
        return random.nextInt(8) == 0 ? "  ".substring(random.nextInt(2)) : "";
    }

    private static String numbers(Random random, int... limits) {
        StringBuilder text = new StringBuilder();
        for (int i = 0; i < limits.length; i += 2) {
            text.append(i == 0 ? blanks(random) : " ").append(blanks(random));
            text.append(random.nextInt(40) == 0 ? "0" : "").append(in(random, limits[i], limits[i + 1]));
        }
        return text.append(blanks(random)).toString();
    }

    /** A text without a flaw, of waters in which a ship of its draughts is now aground, now not. */
    static String good(Random random) {
        while (true) {
            StringBuilder text = new StringBuilder();
            text.append("mean").append(numbers(random, 0, 400)).append(';');
            int waves = random.nextInt(4) == 0 ? random.nextInt(7) : 1 + random.nextInt(2);
            for (int i = 0; i < waves; i++) {
                text.append(blanks(random)).append("wave").append(numbers(random, 0, 400, 60, 2000, 0, 2000)).append(';');
            }
            int bars = random.nextInt(6) == 0 ? random.nextInt(7) : 1 + random.nextInt(3);
            for (int i = 0; i < bars; i++) {
                text.append("bar").append(numbers(random, 0, random.nextInt(3) == 0 ? 200 : 30, 700, 1100, 1, 20,
                        0, 300, 50, 150)).append(random.nextBoolean() ? "lie" : "").append(";");
            }
            int ships = random.nextInt(6) == 0 ? random.nextInt(7) : 1 + random.nextInt(4);
            for (int i = 0; i < ships; i++) {
                int slow = in(random, 4, 25);
                text.append("ship").append(numbers(random, 500, 1100, 40, 95, 0, 200)).append(' ').append(slow)
                        .append(' ').append(in(random, slow, 25)).append(random.nextInt(3) == 0 ? "out;" : ";");
            }
            if (random.nextInt(2) == 0) {
                text.append("squat ").append(formula(random, 0)).append(';');
            }
            if (random.nextInt(2) == 0) {
                text.append("gap").append(numbers(random, 0, random.nextBoolean() ? 240 : 20)).append(';');
            }
            if (random.nextInt(2) == 0) {
                text.append("surge").append(blanks(random)).append(random.nextBoolean() ? "-" : "")
                        .append(numbers(random, 0, 300)).append(blanks(random)).append(';').append(blanks(random));
            }
            if (text.length() <= 600) {
                return text.toString();
            }
        }
    }

    private static final String[] OFTEN = {
        "speed*speed*block/100", "speed*speed*draught/(water-draught+1)/5", "block*speed*speed*draught/water/100",
        "draught/10", "(water-700)/4", "speed*4", "0", "speed*speed*(draught-water)+60", "water/20+speed",
        "(1000-draught)*speed/10",
    };

    private static String formula(Random random, int depth) {
        if (depth == 0 && random.nextInt(3) > 0) {
            return OFTEN[random.nextInt(OFTEN.length)];
        }
        StringBuilder text = new StringBuilder();
        int parts = 1 + random.nextInt(4);
        for (int i = 0; i < parts; i++) {
            text.append(i == 0 ? "" : "+-*/".substring(random.nextInt(4)).substring(0, 1)).append(blanks(random));
            int what = random.nextInt(8);
            if (what < 2 && depth < 4) {
                text.append('(').append(formula(random, depth + 1)).append(')');
            } else {
                text.append(what < 4 ? Integer.toString(in(random, 0, 9999) >> random.nextInt(14))
                        : new String[] {"speed", "block", "draught", "water"}[what & 3]);
            }
        }
        return text.toString();
    }

    private static final String[] SCRAPS = {
        "mean", "wave", "bar", "ship", "squat", "gap", "surge", "lie", "out", "speed", "water", "(", ")", ";", "-",
        "+", "*", "/", " ", "0", "1001", "99999999999999999999", "4294967296", "241", "301", "26", "10000", "x", "M",
        "\u0000", "\u00ff", "wave 1 60 0;", "bar 1 900 1 0 100;", "ship 500 50 0 4 9;", "gap 1;", "surge -5;",
        "squat 1;", "((((", "))))", "((((1))))", "(((((1)))))", "", "",
    };

    /** A text that is a good one but for a few scraps put in, or bytes taken out. */
    static String bad(Random random) {
        StringBuilder text = new StringBuilder(good(random));
        int changes = 1 + random.nextInt(2);
        for (int i = 0; i < changes; i++) {
            int at = random.nextInt(text.length() + 1);
            int upTo = Math.min(text.length(), at + (random.nextBoolean() ? random.nextInt(4) : 0));
            text.replace(at, upTo, SCRAPS[random.nextInt(SCRAPS.length)]);
        }
        if (random.nextInt(4) == 0) {
            text.setLength(random.nextInt(text.length() + 1));
        }
        if (text.length() > 600) {
            text.setLength(600);
        }
        return text.toString();
    }
}
