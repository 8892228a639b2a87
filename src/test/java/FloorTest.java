/** Promises 22 to 25: places and facings, and phrases that are alike. */
public final class FloorTest {
    public static void main(String[] args) {
        directions();
        facings();
        facingAtTheBegin();
        units();
        home();
        farthest();
        wrongArguments();
        alikeKinds();
        alikeMirrored();
        Due.end();
    }

    private static void isAt(String where, LimbScore x, int beat, int... due) {
        for (int what = 0; what < due.length; what++) {
            Due.is(where + ": floor(" + beat + ", " + what + ")", x.floor(beat, what), due[what]);
        }
    }

    private static final int[][] UNITS =
        {{0, 1}, {1, 1}, {1, 0}, {1, -1}, {0, -1}, {-1, -1}, {-1, 0}, {-1, 1}};

    private static void directions() {
        LimbScore x = new LimbScore();
        for (int direction = 1; direction <= 8; direction++) {
            x.reset(4);
            x.addMove(direction % 2, 1, 2, direction, 1);
            int[] unit = UNITS[direction - 1];
            isAt("not yet", x, 2, 0, 0, 0);
            isAt("direction " + direction, x, 3, 2 * unit[0], 2 * unit[1], 0);
            isAt("direction " + direction, x, 4, 2 * unit[0], 2 * unit[1], 0);
        }
        x.reset(4);
        x.addMove(0, 0, 1, 0, 1);
        x.addMove(2, 0, 2, 1, 1);
        x.addMove(4, 0, 2, 1, 1);
        x.addHold(1, 0);
        x.addRelease(0, 2, 1);
        isAt("nothing that moves", x, 4, 0, 0, 0);
    }

    private static void facings() {
        LimbScore x = new LimbScore();
        for (int amount = -8; amount <= 8; amount++) {
            if (amount != 0) {
                x.reset(8);
                x.addTurn(1, 2, amount);
                x.addMove(0, 3, 1, 1, 1);
                isAt("before the turn", x, 2, 0, 0, 0);
                int facing = (amount + 8) % 8;
                isAt("turn " + amount, x, 3, 0, 0, facing);
                isAt("turn " + amount, x, 4, 2 * UNITS[facing][0], 2 * UNITS[facing][1], facing);
            }
        }
        x.reset(8);
        x.addTurn(0, 1, 7);
        x.addTurn(1, 1, 6);
        x.addTurn(2, 1, -8);
        x.addTurn(3, 5, -7);
        int[] due = {0, 7, 5, 5, 5, 5, 5, 5, 6};
        for (int beat = 0; beat < due.length; beat++) {
            Due.is("facing at " + beat, x.floor(beat, 2), due[beat]);
        }
    }

    private static void facingAtTheBegin() {
        LimbScore x = new LimbScore();
        x.addTurn(0, 2, 2);
        x.addMove(0, 1, 3, 1, 1);
        x.addMove(1, 2, 3, 1, 1);
        isAt("begun before the turn's end", x, 4, 0, 2, 2);
        isAt("begun at the turn's end", x, 5, 2, 2, 2);
    }

    private static void units() {
        LimbScore x = new LimbScore();
        x.addMove(0, 0, 2, 1, 1);
        x.addMove(1, 1, 1, 3, 1);
        isAt("both feet end there", x, 2, 1, 1, 0);
        x.addMove(0, 2, 2, 1, 1);
        x.addMove(1, 3, 1, 0, 1);
        isAt("the other one in place", x, 4, 1, 2, 0);
        x.addMove(0, 4, 1, 1, 1);
        x.addRelease(1, 4, 1);
        isAt("a release is no move", x, 5, 1, 4, 0);
        x.addMove(0, 5, 1, 1, 1);
        x.addHold(1, 5);
        x.addRelease(1, 6, 1);
        isAt("a hold is no move", x, 6, 1, 6, 0);
        x.addMove(0, 6, 1, 1, 1);
        x.addMove(3, 6, 1, 1, 1);
        isAt("a leg is no foot", x, 7, 1, 8, 0);
        x.addMove(0, 15, 1, 5, 1);
        isAt("not yet", x, 15, 1, 8, 0);
        isAt("at the end of the score", x, 16, 1, 6, 0);
    }

    private static void home() {
        LimbScore x = new LimbScore();
        Due.is("never away", x.home(), Due.NOT_FOUND);
        x.addMove(0, 2, 1, 1, 1);
        Due.is("not back", x.home(), Due.NOT_FOUND);
        x.addMove(1, 5, 2, 5, 1);
        Due.is("back", x.home(), 7);
        x.addMove(0, 9, 1, 1, 1);
        x.addMove(0, 10, 6, 5, 1);
        Due.is("first of two", x.home(), 7);
        Due.is("removed", x.removeSign(1), 3);
        Due.is("away at the end", x.home(), Due.NOT_FOUND);
        x.removeSign(0);
        Due.is("back at the end", x.home(), 16);
    }

    private static void farthest() {
        LimbScore x = new LimbScore();
        Due.is("never away", x.farthest(), 0);
        x.addMove(0, 0, 1, 6, 1);
        Due.is("diagonal", x.farthest(), 2);
        x.addMove(0, 1, 1, 5, 1);
        Due.is("y", x.farthest(), 4);
        x.addMove(0, 2, 1, 7, 1);
        x.addMove(0, 3, 1, 7, 1);
        Due.is("x", x.farthest(), 6);
        x.addMove(1, 5, 2, 3, 1);
        x.addMove(0, 15, 1, 3, 1);
        Due.is("farther before", x.farthest(), 6);
        x.reset(4);
        x.addMove(0, 3, 1, 1, 1);
        Due.is("at the end", x.farthest(), 2);
    }

    private static void wrongArguments() {
        LimbScore x = new LimbScore();
        Due.is("floor(-1, 0)", x.floor(-1, 0), Due.INVALID);
        Due.is("floor(17, 0)", x.floor(17, 0), Due.INVALID);
        Due.is("floor(0, -1)", x.floor(0, -1), Due.INVALID);
        Due.is("floor(0, 3)", x.floor(0, 3), Due.INVALID);
        Due.is("floor(16, 2)", x.floor(16, 2), 0);
        int[][] wrong = {{-1, 4, 0, 0}, {16, 17, 0, 0}, {2, 2, 0, 0}, {3, 2, 0, 0}, {0, 17, 0, 0},
            {0, 4, -1, 0}, {0, 4, 13, 0}, {0, 4, 0, 2}, {0, 4, 0, -1}, {0, 16, 1, 0}};
        for (int[] a : wrong) {
            Due.is("alike, wrong", x.alike(a[0], a[1], a[2], a[3]), Due.INVALID);
        }
        Due.is("alike(0, 4, 12, 0)", x.alike(0, 4, 12, 0), 4);
        Due.is("alike(0, 16, 0, 1)", x.alike(0, 16, 0, 1), 16);
        Due.is("alike(15, 16, 15, 1)", x.alike(15, 16, 15, 1), 1);
    }

    /** The beats 0 to 7 in one column, a kind each, against one another. */
    private static void alikeKinds() {
        LimbScore x = new LimbScore();
        x.addMove(4, 0, 1, 2, 0);
        x.addMove(4, 1, 1, 3, 0);
        x.addMove(4, 2, 1, 2, 1);
        x.addRelease(4, 3, 1);
        x.addHold(4, 5);
        x.addRelease(4, 7, 2);
        for (int beat = 0; beat < 9; beat++) {
            for (int other = 0; other < 9; other++) {
                boolean isAlike = beat == other || beat + other == 11 && beat > 4 && other > 4
                        && beat < 7 && other < 7;
                isAlike |= isRelease(beat) && isRelease(other);
                Due.is("alike(" + beat + ", " + other + ")",
                        x.alike(beat, beat + 1, other, 0), isAlike ? 1 : 0);
            }
        }
        x.reset(16);
        x.addTurn(0, 2, 3);
        x.addTurn(4, 1, 3);
        x.addTurn(5, 1, -3);
        Due.is("alike turns", x.alike(0, 4, 4, 0), 3);
        x.addMove(0, 6, 1, 1, 1);
        Due.is("another column", x.alike(0, 4, 4, 0), 2);
        Due.is("overlapping phrases", x.alike(0, 8, 1, 0), 3);
    }

    private static boolean isRelease(int beat) {
        return beat == 3 || beat == 7 || beat == 8;
    }

    private static void alikeMirrored() {
        LimbScore x = new LimbScore();
        for (int direction = 0; direction < 9; direction++) {
            x.reset(16);
            x.addMove(2, 0, 1, direction, 1);
            for (int other = 0; other < 9; other++) {
                x.addMove(3, 1 + other, 1, other, 1);
                int mirrored = direction < 2 ? direction : 10 - direction;
                Due.is("mirrored " + direction, x.alike(0, 1, 1 + other, 1),
                        other == mirrored ? 1 : 0);
                Due.is("not mirrored", x.alike(0, 1, 1 + other, 0), 0);
            }
        }
        x.reset(16);
        x.addTurn(0, 1, 3);
        x.addTurn(1, 1, -3);
        x.addRelease(0, 2, 1);
        x.addRelease(1, 3, 1);
        x.addHold(5, 4);
        x.addRelease(5, 5, 1);
        x.addHold(4, 6);
        x.addRelease(4, 7, 1);
        Due.is("turns mirrored", x.alike(0, 1, 1, 1), 1);
        Due.is("turns not mirrored", x.alike(0, 1, 1, 0), 0);
        Due.is("a turn against itself, mirrored", x.alike(0, 1, 0, 1), 0);
        Due.is("releases mirrored", x.alike(2, 3, 3, 1), 1);
        Due.is("holds and releases mirrored", x.alike(4, 6, 6, 1), 2);
        Due.is("holds and releases not mirrored", x.alike(4, 6, 6, 0), 0);
    }
}
