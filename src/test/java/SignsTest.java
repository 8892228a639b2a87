/** Promises 1 to 9 and 11 to 14: signs, copies, the leap and the history. */
public final class SignsTest {
    public static void main(String[] args) {
        newObject();
        reset();
        addMove();
        addHold();
        addTurn();
        addRelease();
        removeSign();
        order();
        limits();
        copyPlain();
        copyMirroredAndReversed();
        copySelection();
        copyErrors();
        copyOverHolds();
        setLeap();
        undo();
        countAndSign();
        signAt();
        Due.end();
    }

    private static void newObject() {
        LimbScore x = new LimbScore();
        int[] due = {16, 0, 1, 0, 0};
        for (int what = 0; what < due.length; what++) {
            Due.is("new: count(" + what + ")", x.count(what), due[what]);
        }
        Due.is("new: undo", x.undo(), Due.NOT_POSSIBLE);
        Due.is("new: fault", x.fault(), Due.NOT_FOUND);
        Due.is("new: sign(0, 0)", x.sign(0, 0), Due.INVALID);
        Due.is("constant", LimbScore.INVALID_ARGUMENT, -1001);
        Due.is("constant", LimbScore.NOT_POSSIBLE, -1002);
        Due.is("constant", LimbScore.LIMIT_REACHED, -1003);
        Due.is("constant", LimbScore.NOT_FOUND, -1004);
    }

    private static void reset() {
        LimbScore x = new LimbScore();
        x.setLeap(5);
        x.addHold(0, 0);
        x.type('0');
        Due.is("reset(3)", x.reset(3), Due.INVALID);
        Due.is("reset(49)", x.reset(49), Due.INVALID);
        Due.is("reset(-1)", x.reset(-1), Due.INVALID);
        Due.is("refused reset: signs", x.count(1), 1);
        Due.is("refused reset: states", x.count(3), 2);
        Due.is("reset(4)", x.reset(4), 16);
        Due.is("reset(48)", x.reset(48), 4);
        Due.is("reset: B", x.count(0), 48);
        Due.is("reset: signs", x.count(1), 0);
        Due.is("reset: leap", x.count(2), 5);
        Due.is("reset: states", x.count(3), 4);
        Due.is("reset: text", x.count(4), 1);
    }

    private static void addMove() {
        LimbScore x = new LimbScore();
        int[][] wrong = {{-1, 0, 1, 1, 1}, {6, 0, 1, 1, 1}, {0, -1, 1, 1, 1}, {0, 16, 1, 1, 1},
            {0, 0, 0, 1, 1}, {0, 0, 17, 1, 1}, {0, 15, 2, 1, 1}, {0, 0, 1, -1, 1}, {0, 0, 1, 9, 1},
            {0, 0, 1, 1, -1}, {0, 0, 1, 1, 3}, {0, 1, Integer.MAX_VALUE, 1, 1},
            {0, Integer.MIN_VALUE, Integer.MIN_VALUE, 1, 1}, {Integer.MAX_VALUE, 0, 1, 1, 1}};
        for (int[] a : wrong) {
            Due.is("addMove, wrong", x.addMove(a[0], a[1], a[2], a[3], a[4]), Due.INVALID);
        }
        Due.is("refused moves: states", x.count(3), 0);
        Due.is("addMove(5, 15, 1, 8, 2)", x.addMove(5, 15, 1, 8, 2), 0);
        Due.is("addMove(0, 0, 16, 0, 0)", x.addMove(0, 0, 16, 0, 0), 0);
        Due.is("addMove(3, 4, 4, 5, 1)", x.addMove(3, 4, 4, 5, 1), 1);
        Due.is("over the begin", x.addMove(3, 3, 2, 1, 1), Due.NOT_POSSIBLE);
        Due.is("over the end", x.addMove(3, 7, 2, 1, 1), Due.NOT_POSSIBLE);
        Due.is("inside", x.addMove(3, 5, 1, 1, 1), Due.NOT_POSSIBLE);
        Due.is("around", x.addMove(3, 3, 6, 1, 1), Due.NOT_POSSIBLE);
        Due.is("wrong and over", x.addMove(3, 5, 1, 1, 3), Due.INVALID);
        Due.is("before it", x.addMove(3, 3, 1, 1, 1), 1);
        Due.is("behind it", x.addMove(3, 8, 1, 2, 1), 3);
        Due.signsAre("addMove", x, "0 0 16 0 0 0 -", "3 3 4 0 1 1 -", "3 4 8 0 5 1 -",
                "3 8 9 0 2 1 -", "5 15 16 0 8 2 -");
        Due.is("moves: states", x.count(3), 5);
    }

    private static void addHold() {
        LimbScore x = new LimbScore();
        Due.is("addHold(-1, 0)", x.addHold(-1, 0), Due.INVALID);
        Due.is("addHold(7, 0)", x.addHold(7, 0), Due.INVALID);
        Due.is("addHold(0, -1)", x.addHold(0, -1), Due.INVALID);
        Due.is("addHold(0, 16)", x.addHold(0, 16), Due.INVALID);
        for (int column = 0; column < 7; column++) {
            Due.is("addHold(" + column + ", 15)", x.addHold(column, 15), column);
        }
        Due.is("a hold again", x.addHold(6, 15), Due.NOT_POSSIBLE);
        x.reset(16);
        x.addMove(0, 4, 3, 1, 1);
        Due.is("at the begin of a move", x.addHold(0, 4), Due.NOT_POSSIBLE);
        Due.is("at the last beat of a move", x.addHold(0, 6), Due.NOT_POSSIBLE);
        Due.is("behind the move", x.addHold(0, 7), 1);
        Due.is("in the hold", x.addHold(0, 10), 2);
        Due.is("before the move", x.addHold(0, 1), 0);
        Due.is("over a begin of a hold", x.addMove(0, 9, 2, 1, 1), Due.NOT_POSSIBLE);
        Due.is("at the begin of a hold", x.addMove(0, 7, 1, 1, 1), Due.NOT_POSSIBLE);
        Due.is("inside a hold", x.addMove(0, 8, 1, 3, 2), 3);
        Due.signsAre("addHold", x, "0 1 4 1 - - -", "0 4 7 0 1 1 -", "0 7 8 1 - - -",
                "0 8 9 0 3 2 -", "0 10 16 1 - - -");
    }

    private static void addTurn() {
        LimbScore x = new LimbScore();
        int[][] wrong = {{-1, 1, 1}, {16, 1, 1}, {0, 0, 1}, {0, 17, 1}, {1, Integer.MAX_VALUE, 1},
            {0, 1, 0}, {0, 1, 9}, {0, 1, -9}, {0, 1, Integer.MIN_VALUE}};
        for (int[] a : wrong) {
            Due.is("addTurn, wrong", x.addTurn(a[0], a[1], a[2]), Due.INVALID);
        }
        Due.is("addTurn(2, 3, 8)", x.addTurn(2, 3, 8), 0);
        Due.is("addTurn(0, 2, -8)", x.addTurn(0, 2, -8), 0);
        Due.is("over a turn", x.addTurn(4, 1, 1), Due.NOT_POSSIBLE);
        Due.is("over a turn, wrong", x.addTurn(4, 1, 0), Due.INVALID);
        Due.is("addTurn(5, 11, -1)", x.addTurn(5, 11, -1), 2);
        Due.signsAre("addTurn", x, "6 0 2 2 - - -8", "6 2 5 2 - - 8", "6 5 16 2 - - -1");
    }

    private static void addRelease() {
        LimbScore x = new LimbScore();
        int[][] wrong = {{-1, 0, 1}, {7, 0, 1}, {0, -1, 1}, {0, 16, 1}, {0, 0, 0}, {0, 15, 2}};
        for (int[] a : wrong) {
            Due.is("addRelease, wrong", x.addRelease(a[0], a[1], a[2]), Due.INVALID);
        }
        for (int column = 0; column < 7; column++) {
            Due.is("addRelease(" + column + ", 2, 2)", x.addRelease(column, 2, 2), column);
        }
        Due.is("over a release", x.addRelease(6, 3, 1), Due.NOT_POSSIBLE);
        Due.is("a turn over a release", x.addTurn(1, 2, 1), Due.NOT_POSSIBLE);
        x.reset(4);
        x.addRelease(6, 3, 1);
        Due.signsAre("addRelease", x, "6 3 4 3 - - -");
    }

    private static void removeSign() {
        LimbScore x = new LimbScore();
        Due.is("removeSign, none", x.removeSign(0), Due.INVALID);
        x.addHold(4, 0);
        x.addMove(4, 3, 2, 1, 1);
        x.addHold(4, 5);
        Due.is("removeSign(-1)", x.removeSign(-1), Due.INVALID);
        Due.is("removeSign(3)", x.removeSign(3), Due.INVALID);
        Due.is("refused: states", x.count(3), 3);
        Due.is("removeSign(1)", x.removeSign(1), 2);
        Due.signsAre("the hold lasts on", x, "4 0 5 1 - - -", "4 5 16 1 - - -");
        Due.is("removeSign(1)", x.removeSign(1), 1);
        Due.is("the hold lasts to the end", x.sign(0, 2), 16);
        Due.is("removeSign(0)", x.removeSign(0), 0);
        Due.is("removed: states", x.count(3), 6);
    }

    private static void order() {
        LimbScore x = new LimbScore();
        Due.is("order", x.addHold(6, 3), 0);
        Due.is("order", x.addHold(0, 4), 1);
        Due.is("order", x.addHold(2, 3), 0);
        Due.is("order", x.addHold(5, 0), 0);
        Due.is("order", x.addHold(4, 3), 2);
        Due.signsAre("order", x, "5 0 16 1 - - -", "2 3 16 1 - - -", "4 3 16 1 - - -",
                "6 3 16 1 - - -", "0 4 16 1 - - -");
    }

    private static LimbScore fullScore() {
        LimbScore x = new LimbScore();
        x.reset(48);
        for (int beat = 0; beat < 30; beat++) {
            x.addHold(0, beat);
            x.addRelease(3, beat, 1);
        }
        return x;
    }

    private static void limits() {
        LimbScore x = fullScore();
        Due.is("full: signs", x.count(1), 60);
        Due.is("full: move", x.addMove(1, 0, 1, 1, 1), Due.LIMIT);
        Due.is("full: hold", x.addHold(1, 0), Due.LIMIT);
        Due.is("full: turn", x.addTurn(0, 1, 1), Due.LIMIT);
        Due.is("full: release", x.addRelease(1, 0, 1), Due.LIMIT);
        Due.is("full: not possible goes first", x.addHold(0, 29), Due.NOT_POSSIBLE);
        Due.is("full: not possible goes first", x.addMove(3, 29, 1, 1, 1), Due.NOT_POSSIBLE);
        Due.is("full: wrong goes first", x.addMove(3, 29, 1, 1, 3), Due.INVALID);
        Due.is("full: nothing to copy", x.copyPhrase(40, 48, 0, 0, 0), 0);
        Due.is("full: copy", x.copyPhrase(0, 1, 40, 0, 0), Due.LIMIT);
        Due.is("full: copy over a sign", x.copyPhrase(0, 1, 29, 0, 0), Due.NOT_POSSIBLE);
        Due.is("full: copy of all over the end", x.copyPhrase(0, 30, 19, 1, 0), Due.NOT_POSSIBLE);
        Due.is("full: copy of all", x.copyPhrase(0, 30, 18, 1, 1), Due.LIMIT);
        Due.is("full: signs", x.count(1), 60);
        x.removeSign(0);
        Due.is("one short: copy of two", x.copyPhrase(1, 2, 40, 0, 0), Due.LIMIT);
        Due.is("one short: copy of one", x.copyPhrase(0, 1, 40, 0, 0), 1);
    }

    private static LimbScore phraseScore() {
        LimbScore x = new LimbScore();
        x.reset(24);
        x.addMove(0, 1, 2, 2, 0);
        x.addMove(2, 2, 1, 7, 1);
        x.addHold(5, 2);
        x.addTurn(1, 3, -3);
        x.addRelease(1, 3, 1);
        return x;
    }

    private static void copyPlain() {
        LimbScore x = phraseScore();
        Due.is("copy later", x.copyPhrase(1, 4, 10, 0, 0), 5);
        Due.signsAre("copy later", x, "0 1 3 0 2 0 -", "6 1 4 2 - - -3", "2 2 3 0 7 1 -",
                "5 2 11 1 - - -", "1 3 4 3 - - -", "0 10 12 0 2 0 -", "6 10 13 2 - - -3",
                "2 11 12 0 7 1 -", "5 11 24 1 - - -", "1 12 13 3 - - -");
        Due.is("copy: states", x.count(3), 6);
        Due.is("undo the copy", x.undo(), 5);
        Due.is("undo the copy: signs", x.count(1), 5);
        x.reset(8);
        x.addMove(4, 6, 2, 3, 2);
        Due.is("copy earlier", x.copyPhrase(5, 8, 2, 0, 0), 1);
        Due.signsAre("copy earlier", x, "4 3 5 0 3 2 -", "4 6 8 0 3 2 -");
    }

    private static void copyMirroredAndReversed() {
        LimbScore x = phraseScore();
        Due.is("mirrored", x.copyPhrase(1, 4, 10, 1, 0), 5);
        Due.signsAre("mirrored", x, "0 1 3 0 2 0 -", "6 1 4 2 - - -3", "2 2 3 0 7 1 -",
                "5 2 24 1 - - -", "1 3 4 3 - - -", "1 10 12 0 8 0 -", "6 10 13 2 - - 3",
                "3 11 12 0 3 1 -", "4 11 24 1 - - -", "0 12 13 3 - - -");
        x.undo();
        Due.is("reversed", x.copyPhrase(0, 5, 10, 0, 1), 5);
        Due.signsAre("reversed", x, "0 1 3 0 2 0 -", "6 1 4 2 - - -3", "2 2 3 0 7 1 -",
                "5 2 12 1 - - -", "1 3 4 3 - - -", "1 11 12 3 - - -", "6 11 14 2 - - 3",
                "0 12 14 0 2 0 -", "2 12 13 0 7 1 -", "5 12 24 1 - - -");
        x.undo();
        Due.is("both", x.copyPhrase(1, 4, 10, 1, 1), 5);
        Due.signsAre("both", x, "0 1 3 0 2 0 -", "6 1 4 2 - - -3", "2 2 3 0 7 1 -",
                "5 2 24 1 - - -", "1 3 4 3 - - -", "0 10 11 3 - - -", "6 10 13 2 - - -3",
                "1 11 13 0 8 0 -", "3 11 12 0 3 1 -", "4 11 24 1 - - -");
        x.reset(24);
        for (int direction = 0; direction < 9; direction++) {
            x.addMove(4, direction, 1, direction, 1);
        }
        x.copyPhrase(0, 9, 12, 1, 0);
        int[] mirrored = {0, 1, 8, 7, 6, 5, 4, 3, 2};
        for (int direction = 0; direction < 9; direction++) {
            Due.is("mirrored " + direction, x.sign(9 + direction, 4), mirrored[direction]);
            Due.is("mirrored column", x.sign(9 + direction, 0), 5);
        }
    }

    private static void copySelection() {
        LimbScore x = new LimbScore();
        x.addMove(0, 0, 2, 1, 1);
        x.addMove(1, 1, 3, 1, 1);
        x.addMove(2, 1, 4, 1, 1);
        x.addHold(3, 3);
        x.addHold(4, 4);
        Due.is("begins from first, ends up to last", x.copyPhrase(1, 4, 8, 0, 0), 2);
        Due.is("selected", x.signAt(1, 8), 5);
        Due.is("selected", x.signAt(3, 10), 6);
        Due.is("none selected", x.copyPhrase(6, 8, 0, 1, 1), 0);
        Due.is("none selected: a change", x.count(3), 6);
        x.setLeap(2);
        x.undo();
        Due.is("signs", x.count(1), 7);
    }

    private static void copyErrors() {
        LimbScore x = phraseScore();
        int[][] wrong = {{-1, 4, 0, 0, 0}, {24, 25, 0, 0, 0}, {1, 1, 0, 0, 0}, {1, 25, 0, 0, 0},
            {5, 4, 0, 0, 0}, {1, 4, -1, 0, 0}, {1, 4, 24, 0, 0}, {1, 4, 10, 2, 0},
            {1, 4, 10, -1, 0}, {1, 4, 10, 0, 2}, {1, 4, 10, 0, -1}};
        for (int[] a : wrong) {
            Due.is("copyPhrase, wrong", x.copyPhrase(a[0], a[1], a[2], a[3], a[4]), Due.INVALID);
        }
        Due.is("beyond the end", x.copyPhrase(1, 4, 22, 0, 0), Due.NOT_POSSIBLE);
        Due.is("onto itself", x.copyPhrase(1, 4, 1, 0, 0), Due.NOT_POSSIBLE);
        Due.is("refused: signs", x.count(1), 5);
        Due.is("refused: states", x.count(3), 6);
        Due.is("up to the end", x.copyPhrase(1, 4, 21, 0, 0), 5);
        x.reset(4);
        x.addHold(0, 3);
        Due.is("a hold behind the end", x.copyPhrase(2, 4, 3, 0, 0), Due.NOT_POSSIBLE);
        Due.is("a hold at the last beat", x.copyPhrase(3, 4, 3, 1, 0), 1);
        x.reset(24);
        x.addMove(0, 0, 1, 1, 1);
        Due.is("far behind the end", x.copyPhrase(0, 24, 23, 0, 1), Due.NOT_POSSIBLE);
    }

    private static void copyOverHolds() {
        LimbScore x = new LimbScore();
        x.addHold(0, 0);
        x.addMove(0, 4, 2, 1, 1);
        x.addHold(0, 8);
        Due.is("into a hold", x.copyPhrase(4, 6, 2, 0, 0), 1);
        Due.is("a hold is cut", x.sign(0, 2), 2);
        Due.is("a hold onto a move", x.copyPhrase(8, 9, 5, 0, 0), Due.NOT_POSSIBLE);
        Due.is("a hold onto a hold", x.copyPhrase(8, 9, 0, 0, 0), Due.NOT_POSSIBLE);
        Due.is("a move over the begin of a hold", x.copyPhrase(4, 6, 7, 0, 0), Due.NOT_POSSIBLE);
        Due.is("a hold into a hold", x.copyPhrase(8, 9, 10, 0, 0), 1);
        Due.signsAre("over holds", x, "0 0 2 1 - - -", "0 2 4 0 1 1 -", "0 4 6 0 1 1 -",
                "0 8 10 1 - - -", "0 10 16 1 - - -");
    }

    private static void setLeap() {
        LimbScore x = new LimbScore();
        Due.is("setLeap(-1)", x.setLeap(-1), Due.INVALID);
        Due.is("setLeap(9)", x.setLeap(9), Due.INVALID);
        Due.is("setLeap(8)", x.setLeap(8), 1);
        Due.is("setLeap(0)", x.setLeap(0), 8);
        Due.is("setLeap(0)", x.setLeap(0), 0);
        Due.is("the leap", x.count(2), 0);
        Due.is("also a change", x.count(3), 3);
    }

    private static void undo() {
        LimbScore x = new LimbScore();
        x.addHold(0, 0);
        x.setLeap(4);
        x.addTurn(0, 2, 3);
        x.reset(20);
        x.removeSign(0);
        Due.is("undo the reset", x.undo(), 3);
        Due.is("B again", x.count(0), 16);
        Due.signsAre("undo", x, "0 0 16 1 - - -", "6 0 2 2 - - 3");
        Due.is("undo the turn", x.undo(), 2);
        Due.is("undo the leap", x.undo(), 1);
        Due.is("the leap again", x.count(2), 1);
        Due.is("undo the hold", x.undo(), 0);
        Due.is("no sign", x.count(1), 0);
        Due.is("undo nothing", x.undo(), Due.NOT_POSSIBLE);
        for (int leap = 0; leap < 8; leap++) {
            x.setLeap(leap);
        }
        Due.is("at most 6 states", x.count(3), 6);
        x.type('z');
        for (int left = 5; left >= 0; left--) {
            Due.is("undo", x.undo(), left);
            Due.is("undo: leap", x.count(2), left + 1);
        }
        Due.is("undo the dropped ones", x.undo(), Due.NOT_POSSIBLE);
        Due.is("the text stays", x.count(4), 1);
    }

    private static void countAndSign() {
        LimbScore x = new LimbScore();
        x.addMove(1, 2, 3, 4, 2);
        x.addTurn(3, 1, -2);
        x.type('a');
        x.type('b');
        int[] due = {16, 2, 1, 2, 2};
        for (int what = 0; what < due.length; what++) {
            Due.is("count(" + what + ")", x.count(what), due[what]);
        }
        Due.is("count(-1)", x.count(-1), Due.INVALID);
        Due.is("count(5)", x.count(5), Due.INVALID);
        Due.signsAre("sign", x, "1 2 5 0 4 2 -", "6 3 4 2 - - -2");
        Due.is("sign(-1, 0)", x.sign(-1, 0), Due.INVALID);
        Due.is("sign(2, 4)", x.sign(2, 4), Due.INVALID);
        Due.is("sign(0, -1)", x.sign(0, -1), Due.INVALID);
        Due.is("sign(0, 7)", x.sign(0, 7), Due.INVALID);
        Due.is("sign(1, 7)", x.sign(1, 7), Due.INVALID);
    }

    private static void signAt() {
        LimbScore x = new LimbScore();
        x.addMove(1, 2, 3, 4, 2);
        x.addHold(1, 7);
        x.addRelease(1, 12, 1);
        int[] due = {-1, -1, 0, 0, 0, -1, -1, 1, 1, 1, 1, 1, 2, -1, -1, -1};
        for (int beat = 0; beat < 16; beat++) {
            Due.is("signAt(1, " + beat + ")", x.signAt(1, beat),
                    due[beat] < 0 ? Due.NOT_FOUND : due[beat]);
            Due.is("signAt(0, " + beat + ")", x.signAt(0, beat), Due.NOT_FOUND);
        }
        Due.is("signAt(-1, 0)", x.signAt(-1, 0), Due.INVALID);
        Due.is("signAt(7, 0)", x.signAt(7, 0), Due.INVALID);
        Due.is("signAt(1, -1)", x.signAt(1, -1), Due.INVALID);
        Due.is("signAt(1, 16)", x.signAt(1, 16), Due.INVALID);
    }
}
