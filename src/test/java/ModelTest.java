import java.util.Random;

/** Runs of up to 512 drawn calls, each answered by the class and by the model. */
public final class ModelTest {
    private static final int RUNS = 1500;
    private static final int CALLS = 512;

    private final Random random;
    private final LimbScore x = new LimbScore();
    private final Model model = new Model();
    private final int density;
    private int calls = 0;

    private ModelTest(int seed) {
        random = new Random(seed);
        density = 1 + seed % 5;
    }

    public static void main(String[] args) {
        for (int seed = 0; seed < RUNS; seed++) {
            new ModelTest(seed).run(seed);
        }
        Due.end();
    }

    private void run(int seed) {
        String where = "seed " + seed + ", call ";
        if (random.nextBoolean()) {
            int beats = 4 + random.nextInt(45);
            same(where, "reset", x.reset(beats), model.reset(beats));
        }
        while (calls < CALLS) {
            int kind = random.nextInt(10);
            if (kind < density) {
                add(where);
            } else if (kind < 6) {
                change(where);
            } else {
                ask(where);
            }
        }
    }

    private void same(String where, String call, int got, int due) {
        calls++;
        Due.is(where + calls + ": " + call, got, due);
    }

    /** A number of a range, or now and then one beside it. */
    private int from(int least, int most) {
        int drawn = random.nextInt(60);
        if (drawn == 0) {
            return least - 1;
        }
        if (drawn == 1) {
            return most + 1;
        }
        if (drawn == 2 && random.nextInt(8) == 0) {
            return random.nextInt();
        }
        return most < least ? least : least + random.nextInt(most - least + 1);
    }

    private int beat() {
        return from(0, model.count(0) - 1);
    }

    private int column() {
        return from(0, 6);
    }

    private int length(int begin) {
        int left = Math.max(1, Math.min(48, model.count(0) - begin));
        return random.nextInt(4) == 0 ? from(1, left) : from(1, Math.min(3, left));
    }

    private void add(String where) {
        int column = random.nextInt(3) == 0 ? from(0, 1) : column();
        int begin = beat();
        int length = length(begin);
        int direction = from(0, 8);
        int level = from(0, 2);
        int amount = from(-8, 8);
        switch (random.nextInt(6)) {
            case 0:
                same(where, "addHold", x.addHold(column, begin), model.addHold(column, begin));
                break;
            case 1:
                same(where, "addTurn", x.addTurn(begin, length, amount),
                        model.addTurn(begin, length, amount));
                break;
            case 2:
                same(where, "addRelease", x.addRelease(column, begin, length),
                        model.addRelease(column, begin, length));
                break;
            default:
                same(where, "addMove", x.addMove(column, begin, length, direction, level),
                        model.addMove(column, begin, length, direction, level));
        }
    }

    private void change(String where) {
        int drawn = random.nextInt(40);
        if (drawn == 0) {
            int beats = from(4, 48);
            same(where, "reset", x.reset(beats), model.reset(beats));
        } else if (drawn < 5) {
            int sign = from(0, model.count(1) - 1);
            same(where, "removeSign", x.removeSign(sign), model.removeSign(sign));
        } else if (drawn < 20) {
            copy(where);
        } else if (drawn < 25) {
            int leap = from(0, 8);
            same(where, "setLeap", x.setLeap(leap), model.setLeap(leap));
        } else if (drawn < 30) {
            same(where, "undo", x.undo(), model.undo());
        } else if (drawn < 33) {
            writeAndLay(where);
        } else {
            same(where, "fault", x.fault(), model.fault());
        }
    }

    private void copy(String where) {
        int first = beat();
        int last = random.nextBoolean() ? first + 1 + random.nextInt(4)
                : from(first + 1, Math.max(first + 1, model.count(0)));
        int to = beat();
        int mirrored = from(0, 1);
        int reversed = from(0, 1);
        same(where, "copyPhrase", x.copyPhrase(first, last, to, mirrored, reversed),
                model.copyPhrase(first, last, to, mirrored, reversed));
    }

    private void writeAndLay(String where) {
        if (random.nextInt(3) != 0) {
            same(where, "clearText", x.clearText(), model.clearText());
        }
        int items = random.nextInt(12);
        for (int i = 0; i < items; i++) {
            String item = item();
            for (int j = 0; j < item.length() && calls < CALLS; j++) {
                int character = random.nextInt(400) == 0 ? from(32, 126) : item.charAt(j);
                same(where, "type", x.type(character), model.type(character));
            }
            same(where, "fault", x.fault(), model.fault());
        }
        same(where, "lay", x.lay(), model.lay());
    }

    private String item() {
        int column = random.nextInt(40) == 0 ? random.nextInt(10) : random.nextInt(6);
        String length = (random.nextInt(6) == 0 ? "0" : "") + (1 + random.nextInt(3));
        if (random.nextInt(40) == 0) {
            length = Integer.toString(random.nextInt(120));
        }
        switch (random.nextInt(5)) {
            case 0:
                return column + "k;";
            case 1:
                return column + "e" + length + ";";
            case 2:
                return column + "r" + length + ";";
            case 3:
                return "6t" + (random.nextBoolean() ? "+" : "-") + (1 + random.nextInt(8)) + "/"
                        + length + ";";
            default:
                return column + "m" + random.nextInt(9) + "lnh".charAt(random.nextInt(3)) + length
                        + ";";
        }
    }

    private void ask(String where) {
        int beat = beat();
        int column = column();
        switch (random.nextInt(6)) {
            case 0:
                int what = from(0, 4);
                same(where, "count", x.count(what), model.count(what));
                break;
            case 1:
                int sign = from(0, model.count(1) - 1);
                int property = from(0, 6);
                same(where, "sign", x.sign(sign, property), model.sign(sign, property));
                break;
            case 2:
                same(where, "signAt", x.signAt(column, beat), model.signAt(column, beat));
                int kind = from(-1, 3);
                same(where, "covered", x.covered(column, kind), model.covered(column, kind));
                break;
            case 3:
                askWeight(where, beat);
                break;
            case 4:
                askFloor(where, beat);
                break;
            default:
                askAlike(where, beat);
        }
    }

    private void askWeight(String where, int beat) {
        int what = from(0, 6);
        same(where, "bears", x.bears(beat), model.bears(beat));
        same(where, "toldTwice", x.toldTwice(beat), model.toldTwice(beat));
        same(where, "isFaulty", x.isFaulty(beat), model.isFaulty(beat));
        same(where, "nextFault", x.nextFault(beat), model.nextFault(beat));
        same(where, "beats", x.beats(what), model.beats(what));
        same(where, "leastLeap", x.leastLeap(), model.leastLeap());
    }

    private void askFloor(String where, int beat) {
        int what = from(0, 2);
        int later = random.nextInt(4) == 0 ? model.count(0) : beat;
        same(where, "floor", x.floor(later, what), model.floor(later, what));
        same(where, "home", x.home(), model.home());
        same(where, "farthest", x.farthest(), model.farthest());
    }

    private void askAlike(String where, int first) {
        int last = from(first + 1, Math.max(first + 1, model.count(0)));
        int to = from(0, model.count(0) - (last - first));
        int mirrored = from(0, 1);
        same(where, "alike", x.alike(first, last, to, mirrored),
                model.alike(first, last, to, mirrored));
    }
}
