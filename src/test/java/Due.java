/** Compares answers with those that are due, and ends a test. */
final class Due {
    static final int INVALID = -1001;
    static final int NOT_POSSIBLE = -1002;
    static final int LIMIT = -1003;
    static final int NOT_FOUND = -1004;

    private static int wrong = 0;
    private static int checked = 0;

    private Due() {
    }

    static void is(String call, int got, int due) {
        checked++;
        if (got != due) {
            wrong++;
            System.out.println(call + " answered " + got + ", due is " + due);
        }
    }

    /** The signs of a score, each as "column begin end kind direction level amount". */
    static void signsAre(String where, LimbScore x, String... due) {
        is(where + ": signs", x.count(1), due.length);
        for (int i = 0; i < due.length; i++) {
            String[] parts = due[i].split(" ");
            for (int what = 0; what < 7; what++) {
                int value = parts[what].equals("-") ? NOT_FOUND : Integer.parseInt(parts[what]);
                is(where + ": sign(" + i + ", " + what + ")", x.sign(i, what), value);
            }
        }
    }

    /** A new object with a score of so many beats and the signs of a text. */
    static LimbScore laid(int beats, String text) {
        LimbScore x = new LimbScore();
        x.reset(beats);
        type(x, text);
        is("laid: " + text, x.fault(), NOT_FOUND);
        x.lay();
        return x;
    }

    /** All that a small score tells of its state: the numbers, the signs and the text's fault. */
    static String stateOf(LimbScore x) {
        StringBuilder state = new StringBuilder();
        for (int what = 0; what < 5; what++) {
            state.append(x.count(what)).append(' ');
        }
        for (int sign = 0; sign < x.count(1); sign++) {
            for (int what = 0; what < 7; what++) {
                state.append(x.sign(sign, what)).append(' ');
            }
        }
        return state.append(x.fault()).toString();
    }

    static void same(String where, String got, String due) {
        is(where + ": \"" + got + "\" against \"" + due + "\"", got.equals(due) ? 1 : 0, 1);
    }

    static void type(LimbScore x, String text) {
        for (int i = 0; i < text.length(); i++) {
            x.type(text.charAt(i));
        }
    }

    static void end() {
        System.out.println(checked + " answers checked, " + wrong + " not as due");
        if (wrong != 0 || checked == 0) {
            System.exit(1);
        }
    }
}
