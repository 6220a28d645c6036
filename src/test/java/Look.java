/** All that can be asked about an object's state, as one text: what must stay is compared by it. */
final class Look {
    private Look() {
    }

    /** What acts can change. */
    static String told(TideGates x) {
        StringBuilder text = new StringBuilder();
        for (int what = 0; what <= 6; what++) {
            text.append(x.told(what)).append(' ');
        }
        things(text, x);
        return text.append(x.print()).toString();
    }

    /** That, and the tape's bytes, the acts that can be taken back, the fault. */
    static String at(TideGates x) {
        return told(x) + " tape " + x.told(7) + " acts " + x.told(8) + " fault " + x.fault();
    }

    static String refused(TideGates x) {
        return x.status(0) + " " + x.status(1) + " " + x.status(2);
    }

    private static void things(StringBuilder text, TideGates x) {
        for (int wave = 0; wave < x.told(0); wave++) {
            text.append("wave ");
            for (int what = 0; what <= 2; what++) {
                text.append(x.wave(wave, what)).append(' ');
            }
        }
        for (int bar = 0; bar < x.told(1); bar++) {
            text.append("bar ");
            for (int what = 0; what <= 5; what++) {
                text.append(x.bar(bar, what)).append(' ');
            }
        }
        for (int ship = 0; ship < x.told(2); ship++) {
            text.append("ship ");
            for (int what = 0; what <= 7; what++) {
                text.append(x.ship(ship, what)).append(' ');
            }
            // The formula can be seen by what it makes alone.
            text.append(x.told(1) == 0 ? 0 : x.squat(ship, 0, 100, 7)).append(' ');
        }
        text.append("height ").append(x.height(100)).append(' ');
    }

    /** Takes all acts back, looking each time, and reads what is on the tape: the object is another one behind it. */
    static String throughAll(TideGates x) {
        StringBuilder text = new StringBuilder(told(x));
        for (int i = 0; i < 10; i++) {
            text.append('\n').append(x.undo()).append(' ').append(told(x));
        }
        int bytes = x.told(7);
        return text.append('\n').append(x.text(bytes)).append(' ').append(x.fault()).append(' ')
                .append(told(x)).toString();
    }
}
