/** Promises 15 to 21: what bears, what is told twice, faults, flights and covered beats. */
public final class WeightTest {
    public static void main(String[] args) {
        emptyScore();
        bears();
        toldTwice();
        faults();
        flights();
        leastLeap();
        covered();
        wrongArguments();
        Due.end();
    }

    private static void emptyScore() {
        LimbScore x = new LimbScore();
        int[] due = {16, 16, 0, 0, 0, 16, 1};
        for (int what = 0; what < due.length; what++) {
            Due.is("empty: beats(" + what + ")", x.beats(what), due[what]);
        }
        Due.is("empty: nextFault(15)", x.nextFault(15), 15);
        Due.is("empty: leastLeap", x.leastLeap(), 16);
        Due.is("empty: covered(0, -1)", x.covered(0, -1), 0);
    }

    private static void bears() {
        LimbScore x = new LimbScore();
        x.reset(8);
        x.addMove(0, 0, 2, 1, 1);
        x.addHold(0, 3);
        x.addRelease(0, 5, 1);
        x.addMove(1, 1, 1, 0, 0);
        x.addHold(1, 4);
        x.addHold(2, 0);
        x.addMove(4, 0, 8, 1, 1);
        int[] due = {1, 3, 0, 1, 3, 2, 2, 2};
        for (int beat = 0; beat < due.length; beat++) {
            Due.is("bears(" + beat + ")", x.bears(beat), due[beat]);
        }
        int[] counts = {0, 1, 2, 3, 2, 1, 1};
        for (int what = 0; what < counts.length; what++) {
            Due.is("beats(" + what + ")", x.beats(what), counts[what]);
        }
    }

    private static void toldTwice() {
        LimbScore x = new LimbScore();
        x.reset(8);
        x.addMove(0, 0, 1, 1, 1);
        x.addHold(0, 2);
        x.addRelease(0, 6, 1);
        x.addMove(2, 0, 3, 1, 1);
        x.addHold(2, 3);
        x.addRelease(2, 4, 1);
        x.addMove(2, 5, 3, 1, 1);
        x.addHold(1, 3);
        x.addMove(3, 2, 2, 1, 1);
        int[] due = {1, 0, 1, 2, 0, 1, 0, 0};
        for (int beat = 0; beat < due.length; beat++) {
            Due.is("toldTwice(" + beat + ")", x.toldTwice(beat), due[beat]);
        }
        x.addMove(3, 5, 1, 1, 1);
        Due.is("both are told twice", x.toldTwice(5), 3);
        Due.is("leastLeap, told twice", x.leastLeap(), Due.NOT_FOUND);
        Due.is("a leg at a foot of the other side", x.toldTwice(7), 0);
        Due.is("faulty for both", x.isFaulty(5), 1);
    }

    private static void faults() {
        LimbScore x = new LimbScore();
        x.reset(12);
        x.addHold(0, 1);
        x.addRelease(0, 3, 2);
        x.addMove(1, 5, 2, 1, 1);
        x.addMove(1, 10, 1, 1, 1);
        x.addMove(3, 6, 1, 1, 1);
        // flights: 0; 3 and 4; 7 to 9; 11; told twice: 6
        int[][] due = {
            {1, 0, 0, 1, 1, 0, 1, 1, 1, 1, 0, 1},
            {0, 0, 0, 1, 1, 0, 1, 1, 1, 1, 0, 0},
            {0, 0, 0, 0, 0, 0, 1, 1, 1, 1, 0, 0},
            {0, 0, 0, 0, 0, 0, 1, 0, 0, 0, 0, 0}};
        for (int leap = 0; leap < due.length; leap++) {
            x.setLeap(leap);
            int total = 0;
            int next = Due.NOT_FOUND;
            for (int beat = 11; beat >= 0; beat--) {
                String where = "leap " + leap + ": ";
                total += due[leap][beat];
                next = due[leap][beat] == 1 ? beat : next;
                Due.is(where + "isFaulty(" + beat + ")", x.isFaulty(beat), due[leap][beat]);
                Due.is(where + "nextFault(" + beat + ")", x.nextFault(beat), next);
            }
            Due.is("leap " + leap + ": faulty beats", x.beats(0), total);
        }
        Due.is("beats in the air", x.beats(1), 7);
        Due.is("the longest flight", x.beats(5), 3);
        Due.is("flights", x.beats(6), 4);
    }

    private static void flights() {
        LimbScore x = new LimbScore();
        x.reset(4);
        x.addHold(0, 0);
        Due.is("no flight", x.beats(6), 0);
        Due.is("no flight: longest", x.beats(5), 0);
        Due.is("no flight: faults", x.beats(0), 0);
        Due.is("no flight: nextFault", x.nextFault(0), Due.NOT_FOUND);
        x.addRelease(0, 1, 1);
        x.addRelease(0, 3, 1);
        x.addMove(0, 2, 1, 1, 1);
        Due.is("two flights", x.beats(6), 2);
        Due.is("longest of two", x.beats(5), 1);
        x.reset(48);
        x.setLeap(8);
        x.addHold(1, 9);
        Due.is("nine beats are too many for 8", x.beats(0), 9);
        x.addHold(1, 8);
        Due.is("eight beats are not", x.beats(0), 0);
    }

    private static void leastLeap() {
        LimbScore x = new LimbScore();
        x.addHold(0, 9);
        Due.is("leastLeap above 8", x.leastLeap(), 9);
        x.addMove(1, 4, 2, 1, 1);
        Due.is("leastLeap", x.leastLeap(), 4);
        x.addHold(1, 0);
        Due.is("leastLeap", x.leastLeap(), 3);
        x.addMove(1, 6, 3, 1, 1);
        Due.is("leastLeap without a flight", x.leastLeap(), 0);
        x.addMove(2, 15, 1, 1, 1);
        Due.is("leastLeap, told twice", x.leastLeap(), Due.NOT_FOUND);
    }

    private static void covered() {
        LimbScore x = new LimbScore();
        x.addHold(6, 1);
        x.addTurn(4, 3, 1);
        x.addRelease(6, 9, 2);
        x.addHold(6, 14);
        x.addMove(5, 2, 4, 1, 1);
        int[] due = {10, 0, 5, 3, 2};
        for (int kind = -1; kind < 4; kind++) {
            Due.is("covered(6, " + kind + ")", x.covered(6, kind), due[kind + 1]);
        }
        Due.is("covered(5, 0)", x.covered(5, 0), 4);
        Due.is("covered(5, -1)", x.covered(5, -1), 4);
        Due.is("covered(5, 1)", x.covered(5, 1), 0);
        Due.is("covered(4, -1)", x.covered(4, -1), 0);
        Due.is("covered(-1, 0)", x.covered(-1, 0), Due.INVALID);
        Due.is("covered(7, 0)", x.covered(7, 0), Due.INVALID);
        Due.is("covered(0, -2)", x.covered(0, -2), Due.INVALID);
        Due.is("covered(0, 4)", x.covered(0, 4), Due.INVALID);
    }

    private static void wrongArguments() {
        LimbScore x = new LimbScore();
        for (int beat : new int[] {-1, 16, Integer.MIN_VALUE, Integer.MAX_VALUE}) {
            Due.is("bears, wrong", x.bears(beat), Due.INVALID);
            Due.is("toldTwice, wrong", x.toldTwice(beat), Due.INVALID);
            Due.is("isFaulty, wrong", x.isFaulty(beat), Due.INVALID);
            Due.is("nextFault, wrong", x.nextFault(beat), Due.INVALID);
        }
        Due.is("beats(-1)", x.beats(-1), Due.INVALID);
        Due.is("beats(7)", x.beats(7), Due.INVALID);
        x.reset(4);
        x.addHold(0, 0);
        Due.is("a beat behind a shorter score", x.bears(4), Due.INVALID);
        Due.is("nextFault behind a shorter score", x.nextFault(4), Due.INVALID);
    }
}
