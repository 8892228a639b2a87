/**
 * The edges that the document names in "Score" and in the promises 1 to 7, 13 and 14. Above each
 * test stands the sentence that it holds the class to.
 */
public final class ScoreEdgesTest {
    private static final int MAX = Integer.MAX_VALUE;
    private static final int MIN = Integer.MIN_VALUE;

    public static void main(String[] args) {
        newScore();
        lengthOfTheScore();
        resetAnswers();
        resetEmpties();
        beatsOfAdding();
        beatsOfAsking();
        columnsOfMoves();
        columnsOfHoldsAndReleases();
        columnsOfAsking();
        sixtySigns();
        sixtySignsOfEachKind();
        numbersByBegins();
        numbersByColumns();
        lengthsOfMoves();
        lengthsOfTurns();
        lengthsOfReleases();
        directionsAndLevels();
        amounts();
        holdToTheNextSign();
        holdToTheEnd();
        holdAtTheLastBeat();
        coveredBeats();
        oneBeatOfAColumnOnce();
        turnsAndReleasesOnce();
        otherColumnsAreFree();
        signIntoAHold();
        signOverTheBeginOfAHold();
        holdOntoSigns();
        holdIntoAHold();
        removeSignNumbers();
        removedSignFreesAHold();
        propertiesOfSigns();
        propertiesOutOfRange();
        signAtNone();
        Due.end();
    }

    // Creates an empty score of 16 beats.
    private static void newScore() {
        LimbScore x = new LimbScore();
        Due.is("a new score: beats", x.count(0), 16);
        Due.is("a new score: signs", x.count(1), 0);
        Due.is("a new score: the leap", x.count(2), 1);
        Due.is("a new score: states", x.count(3), 0);
        Due.is("a new score: characters", x.count(4), 0);
        for (int column = 0; column < 7; column++) {
            Due.is("a new score is empty", x.covered(column, -1), 0);
        }
        Due.is("a new score: no sign 0", x.removeSign(0), Due.INVALID);
    }

    // The score has a length of B beats (4 to 48, initially 16).
    private static void lengthOfTheScore() {
        LimbScore x = new LimbScore();
        for (int beats : new int[] {3, 49, 0, -4, -16, MIN, MAX}) {
            Due.is("reset(" + beats + ")", x.reset(beats), Due.INVALID);
            Due.is("not reset", x.count(0), 16);
        }
        int before = 16;
        for (int beats = 4; beats <= 48; beats++) {
            Due.is("reset(" + beats + ")", x.reset(beats), before);
            Due.is("beats", x.count(0), beats);
            before = beats;
        }
    }

    // reset: Returns the previous length.
    private static void resetAnswers() {
        LimbScore x = new LimbScore();
        Due.is("reset(48)", x.reset(48), 16);
        Due.is("reset(48)", x.reset(48), 48);
        Due.is("reset(4)", x.reset(4), 48);
        Due.is("reset(16)", x.reset(16), 4);
        x.undo();
        Due.is("reset behind an undo", x.reset(5), 4);
    }

    // Starts anew with an empty score; the leap stays.
    private static void resetEmpties() {
        LimbScore x = Due.laid(48, "0m1n3;6t+2/4;4k;");
        x.setLeap(8);
        Due.is("reset", x.reset(48), 48);
        Due.is("no sign", x.count(1), 0);
        Due.is("the leap stays", x.count(2), 8);
        Due.is("the text stays", x.count(4), 16);
        Due.is("the history stays", x.count(3), 4);
        Due.is("nothing is covered", x.signAt(4, 47), Due.NOT_FOUND);
        Due.is("the first sign again", x.addHold(4, 0), 0);
    }

    // begin: a beat. (numbered from 0; there is no beat B.)
    private static void beatsOfAdding() {
        for (int beats : new int[] {4, 16, 48}) {
            LimbScore x = new LimbScore();
            x.reset(beats);
            for (int wrong : new int[] {-1, beats, MIN, MAX}) {
                Due.is("addMove", x.addMove(0, wrong, 1, 1, 1), Due.INVALID);
                Due.is("addHold", x.addHold(1, wrong), Due.INVALID);
                Due.is("addTurn", x.addTurn(wrong, 1, 1), Due.INVALID);
                Due.is("addRelease", x.addRelease(2, wrong, 1), Due.INVALID);
            }
            Due.is("addMove at the last beat", x.addMove(0, beats - 1, 1, 1, 1), 0);
            Due.is("addHold at the last beat", x.addHold(1, beats - 1), 1);
            Due.is("addTurn at the last beat", x.addTurn(beats - 1, 1, 1), 2);
            Due.is("addRelease at the last beat", x.addRelease(2, beats - 1, 1), 2);
            Due.is("addMove at 0", x.addMove(0, 0, 1, 1, 1), 0);
            Due.is("addHold at 0", x.addHold(1, 0), 1);
            Due.is("addTurn at 0", x.addTurn(0, 1, 1), 2);
            Due.is("addRelease at 0", x.addRelease(2, 0, 1), 2);
        }
    }

    // If there is no beat with a certain number, this is INVALID_ARGUMENT.
    private static void beatsOfAsking() {
        for (int beats : new int[] {4, 16, 48}) {
            LimbScore x = new LimbScore();
            x.reset(48);
            x.addHold(3, 0);
            x.reset(beats);
            for (int wrong : new int[] {-1, beats, MIN, MAX}) {
                Due.is("signAt", x.signAt(3, wrong), Due.INVALID);
                Due.is("bears", x.bears(wrong), Due.INVALID);
                Due.is("toldTwice", x.toldTwice(wrong), Due.INVALID);
                Due.is("isFaulty", x.isFaulty(wrong), Due.INVALID);
                Due.is("nextFault", x.nextFault(wrong), Due.INVALID);
            }
            for (int beat : new int[] {0, beats - 1}) {
                Due.is("signAt", x.signAt(3, beat), Due.NOT_FOUND);
                Due.is("bears", x.bears(beat), 0);
                Due.is("toldTwice", x.toldTwice(beat), 0);
                Due.is("isFaulty", x.isFaulty(beat), 1);
                Due.is("nextFault", x.nextFault(beat), beat);
            }
        }
    }

    // addMove, column: 0 to 5.
    private static void columnsOfMoves() {
        LimbScore x = new LimbScore();
        for (int column = 0; column <= 5; column++) {
            Due.is("a move in " + column, x.addMove(column, 3, 1, 1, 1), column);
            Due.is("its column", x.sign(column, 0), column);
        }
        for (int wrong : new int[] {-1, 6, 7, MIN, MAX}) {
            Due.is("a move in " + wrong, x.addMove(wrong, 3, 1, 1, 1), Due.INVALID);
        }
    }

    // 1 hold .. in all columns; 3 release .. in all columns.
    private static void columnsOfHoldsAndReleases() {
        LimbScore x = new LimbScore();
        for (int column = 0; column <= 6; column++) {
            Due.is("a release in " + column, x.addRelease(column, 3, 1), column);
        }
        for (int column = 0; column <= 6; column++) {
            Due.is("a hold in " + column, x.addHold(column, 4), 7 + column);
            Due.is("its column", x.sign(7 + column, 0), column);
        }
        for (int wrong : new int[] {-1, 7, 8, MIN, MAX}) {
            Due.is("a release in " + wrong, x.addRelease(wrong, 3, 1), Due.INVALID);
            Due.is("a hold in " + wrong, x.addHold(wrong, 3), Due.INVALID);
        }
    }

    // If there is no column with a certain number, this is INVALID_ARGUMENT.
    private static void columnsOfAsking() {
        LimbScore x = Due.laid(16, "0r1;1r2;2r3;3r4;4r5;5r6;6r7;");
        for (int column = 0; column <= 6; column++) {
            Due.is("signAt", x.signAt(column, 0), column);
            Due.is("covered", x.covered(column, -1), column + 1);
        }
        for (int wrong : new int[] {-1, 7, MIN, MAX}) {
            Due.is("signAt", x.signAt(wrong, 0), Due.INVALID);
            Due.is("covered", x.covered(wrong, -1), Due.INVALID);
        }
    }

    private static LimbScore withSixtySigns() {
        LimbScore x = new LimbScore();
        x.reset(20);
        for (int beat = 0; beat < 20; beat++) {
            Due.is("a hold", x.addHold(0, beat), 3 * beat);
            Due.is("a move", x.addMove(4, beat, 1, 1, 1), 3 * beat + 1);
            Due.is("a turn", x.addTurn(beat, 1, 1), 3 * beat + 2);
        }
        return x;
    }

    // There are at most 60 signs. (LIMIT_REACHED if there are 60 signs.)
    private static void sixtySigns() {
        LimbScore x = withSixtySigns();
        Due.is("sixty", x.count(1), 60);
        Due.is("a move as the 61st", x.addMove(1, 0, 1, 1, 1), Due.LIMIT);
        Due.is("a hold as the 61st", x.addHold(1, 0), Due.LIMIT);
        Due.is("a release as the 61st", x.addRelease(5, 0, 20), Due.LIMIT);
        Due.is("still sixty", x.count(1), 60);
        Due.is("the last sign", x.sign(59, 1), 19);
        Due.is("no sign 60", x.sign(60, 1), Due.INVALID);
        Due.is("no sign 60 to remove", x.removeSign(60), Due.INVALID);
        Due.is("59 are left", x.removeSign(59), 59);
        Due.is("a turn as the 60th", x.addTurn(19, 1, -1), 59);
        Due.is("full again", x.addRelease(5, 0, 1), Due.LIMIT);
    }

    // addTurn: LIMIT_REACHED if there are 60 signs; so with the 60th as each other kind.
    private static void sixtySignsOfEachKind() {
        LimbScore x = withSixtySigns();
        x.removeSign(2);
        Due.is("a move as the 60th", x.addMove(1, 0, 1, 1, 1), 1);
        Due.is("a turn as the 61st", x.addTurn(0, 1, 1), Due.LIMIT);
        x.removeSign(1);
        Due.is("a hold as the 60th", x.addHold(5, 19), 58);
        Due.is("a turn as the 61st", x.addTurn(0, 1, 1), Due.LIMIT);
        x.removeSign(58);
        Due.is("a release as the 60th", x.addRelease(5, 0, 20), 2);
        Due.is("a turn as the 61st", x.addTurn(0, 1, 1), Due.LIMIT);
        x.removeSign(0);
        Due.is("a turn as the 60th", x.addTurn(0, 1, 1), 2);
        Due.is("a hold as the 61st", x.addHold(0, 0), Due.LIMIT);
    }

    // They are numbered from 0 by ascending begins.
    private static void numbersByBegins() {
        LimbScore x = new LimbScore();
        Due.is("at 15", x.addMove(2, 15, 1, 1, 1), 0);
        Due.is("at 14 in a later column", x.addMove(5, 14, 1, 1, 1), 0);
        Due.is("at 0", x.addMove(5, 0, 9, 1, 1), 0);
        Due.is("at 1, shorter", x.addMove(2, 1, 1, 1, 1), 1);
        Due.signsAre("by begins", x, "5 0 9 0 1 1 -", "2 1 2 0 1 1 -", "5 14 15 0 1 1 -",
                "2 15 16 0 1 1 -");
    }

    // Those with equal begins by ascending columns.
    private static void numbersByColumns() {
        LimbScore x = new LimbScore();
        Due.is("the column 6", x.addTurn(5, 1, -8), 0);
        Due.is("the column 0", x.addRelease(0, 5, 9), 0);
        Due.is("the column 3", x.addHold(3, 5), 1);
        Due.is("the column 5", x.addMove(5, 5, 1, 8, 2), 2);
        Due.is("the column 1", x.addHold(1, 5), 1);
        Due.is("the column 4", x.addMove(4, 5, 9, 0, 0), 3);
        Due.is("the column 2", x.addRelease(2, 5, 1), 2);
        for (int number = 0; number < 7; number++) {
            Due.is("the column of " + number, x.sign(number, 0), number);
        }
    }

    // addMove, length: 1 to B - begin. (It may not go beyond the end of the score.)
    private static void lengthsOfMoves() {
        LimbScore x = new LimbScore();
        for (int wrong : new int[] {0, -1, 17, MIN, MAX}) {
            Due.is("a move of " + wrong, x.addMove(0, 0, wrong, 1, 1), Due.INVALID);
        }
        for (int wrong : new int[] {0, 2, MAX, MAX - 14, MIN}) {
            Due.is("at the last beat", x.addMove(0, 15, wrong, 1, 1), Due.INVALID);
        }
        Due.is("the whole score", x.addMove(0, 0, 16, 1, 1), 0);
        Due.is("its end", x.sign(0, 2), 16);
        Due.is("the last two beats", x.addMove(1, 14, 2, 1, 1), 1);
        Due.is("its end", x.sign(1, 2), 16);
        x.reset(48);
        Due.is("49 of 48", x.addMove(0, 0, 49, 1, 1), Due.INVALID);
        Due.is("48 of 48", x.addMove(0, 0, 48, 1, 1), 0);
        x.reset(4);
        Due.is("5 of 4", x.addMove(0, 0, 5, 1, 1), Due.INVALID);
        Due.is("4 of 4", x.addMove(0, 0, 4, 1, 1), 0);
    }

    // addTurn, length: 1 to B - begin.
    private static void lengthsOfTurns() {
        LimbScore x = new LimbScore();
        for (int wrong : new int[] {0, -1, 7, MIN, MAX, MAX - 9}) {
            Due.is("a turn of " + wrong, x.addTurn(10, wrong, 1), Due.INVALID);
        }
        Due.is("up to the end", x.addTurn(10, 6, 1), 0);
        Due.is("its end", x.sign(0, 2), 16);
        Due.is("of one beat", x.addTurn(9, 1, 1), 0);
        Due.is("its end", x.sign(0, 2), 10);
    }

    // addRelease, length: 1 to B - begin.
    private static void lengthsOfReleases() {
        LimbScore x = new LimbScore();
        for (int wrong : new int[] {0, -1, 7, MIN, MAX, MAX - 9}) {
            Due.is("a release of " + wrong, x.addRelease(3, 10, wrong), Due.INVALID);
        }
        Due.is("up to the end", x.addRelease(3, 10, 6), 0);
        Due.is("its end", x.sign(0, 2), 16);
        Due.is("of one beat", x.addRelease(3, 9, 1), 0);
        Due.is("its end", x.sign(0, 2), 10);
    }

    // direction: 0 to 8; level: 0 to 2.
    private static void directionsAndLevels() {
        LimbScore x = new LimbScore();
        x.reset(48);
        for (int direction = 0; direction <= 8; direction++) {
            for (int level = 0; level <= 2; level++) {
                int beat = 3 * direction + level;
                Due.is("a move", x.addMove(5, beat, 1, direction, level), beat);
                Due.is("its direction", x.sign(beat, 4), direction);
                Due.is("its level", x.sign(beat, 5), level);
            }
        }
        for (int wrong : new int[] {-1, 9, 16, MIN, MAX}) {
            Due.is("the direction " + wrong, x.addMove(5, 40, 1, wrong, 1), Due.INVALID);
        }
        for (int wrong : new int[] {-1, 3, 4, MIN, MAX}) {
            Due.is("the level " + wrong, x.addMove(5, 40, 1, 1, wrong), Due.INVALID);
        }
    }

    // amount: -8 to 8, not 0.
    private static void amounts() {
        LimbScore x = new LimbScore();
        x.reset(48);
        int number = 0;
        for (int amount = -8; amount <= 8; amount++) {
            if (amount != 0) {
                Due.is("a turn by " + amount, x.addTurn(number, 1, amount), number);
                Due.is("its amount", x.sign(number, 6), amount);
                Due.is("its column", x.sign(number, 0), 6);
                number++;
            }
        }
        for (int wrong : new int[] {0, 9, -9, 16, -16, MIN, MAX}) {
            Due.is("a turn by " + wrong, x.addTurn(40, 1, wrong), Due.INVALID);
        }
        Due.is("sixteen amounts", x.count(1), 16);
    }

    // A hold lasts to the begin of the next sign in its column.
    private static void holdToTheNextSign() {
        LimbScore x = new LimbScore();
        x.addHold(2, 1);
        x.addMove(3, 2, 1, 1, 1);
        Due.is("a sign of another column", x.sign(0, 2), 16);
        x.addHold(2, 9);
        Due.is("a hold is next", x.sign(0, 2), 9);
        x.addRelease(2, 7, 1);
        Due.is("a release is next", x.sign(0, 2), 7);
        x.addMove(2, 3, 1, 1, 1);
        Due.is("a move is next", x.sign(0, 2), 3);
        x.addHold(2, 2);
        Due.is("at the next beat", x.sign(0, 2), 2);
        x.addHold(2, 0);
        Due.is("a sign before it", x.sign(1, 2), 2);
        x.addHold(6, 4);
        x.addTurn(6, 1, 1);
        Due.is("a turn is next", x.sign(x.signAt(6, 4), 2), 6);
    }

    // Or to the end of the score; in all columns.
    private static void holdToTheEnd() {
        for (int beats : new int[] {4, 16, 48}) {
            LimbScore x = new LimbScore();
            x.reset(beats);
            for (int column = 0; column < 7; column++) {
                x.addHold(column, column % 4);
            }
            for (int column = 0; column < 7; column++) {
                Due.is("to the end", x.sign(column, 2), beats);
                Due.is("the last beat", x.sign(x.signAt(column, beats - 1), 0), column);
                Due.is("covered", x.covered(column, 1), beats - column % 4);
            }
        }
    }

    // (a hold at the last beat lasts to the end of the score.)
    private static void holdAtTheLastBeat() {
        LimbScore x = new LimbScore();
        Due.is("a hold at the last beat", x.addHold(4, 15), 0);
        Due.is("its end", x.sign(0, 2), 16);
        Due.is("it covers the beat", x.signAt(4, 15), 0);
        Due.is("and no other one", x.covered(4, -1), 1);
    }

    // A sign covers the beats from its begin to its end - 1.
    private static void coveredBeats() {
        LimbScore x = new LimbScore();
        x.addMove(4, 3, 4, 1, 1);
        x.addTurn(3, 4, 1);
        x.addRelease(5, 3, 4);
        for (int column = 4; column < 7; column++) {
            Due.is("before the begin", x.signAt(column, 2), Due.NOT_FOUND);
            Due.is("the begin", x.signAt(column, 3), column - 4);
            Due.is("the end - 1", x.signAt(column, 6), column - 4);
            Due.is("the end", x.signAt(column, 7), Due.NOT_FOUND);
            Due.is("covered", x.covered(column, -1), 4);
        }
    }

    // No two signs of a column cover the same beat.
    private static void oneBeatOfAColumnOnce() {
        LimbScore x = new LimbScore();
        x.addMove(1, 4, 3, 1, 1);
        Due.is("its first beat", x.addMove(1, 3, 2, 1, 1), Due.NOT_POSSIBLE);
        Due.is("its last beat", x.addMove(1, 6, 1, 1, 1), Due.NOT_POSSIBLE);
        Due.is("its beats", x.addMove(1, 4, 3, 1, 1), Due.NOT_POSSIBLE);
        Due.is("inside", x.addMove(1, 5, 1, 1, 1), Due.NOT_POSSIBLE);
        Due.is("around", x.addMove(1, 0, 16, 1, 1), Due.NOT_POSSIBLE);
        Due.is("up to it", x.addMove(1, 0, 4, 1, 1), 0);
        Due.is("from its end on", x.addMove(1, 7, 9, 1, 1), 2);
        Due.is("the column is full", x.covered(1, 0), 16);
    }

    // addTurn and addRelease: NOT_POSSIBLE if a beat would be covered twice.
    private static void turnsAndReleasesOnce() {
        LimbScore x = new LimbScore();
        x.addTurn(4, 3, 1);
        Due.is("a turn at its first beat", x.addTurn(3, 2, 1), Due.NOT_POSSIBLE);
        Due.is("a turn at its last beat", x.addTurn(6, 3, 1), Due.NOT_POSSIBLE);
        Due.is("a release at its first beat", x.addRelease(6, 2, 3), Due.NOT_POSSIBLE);
        Due.is("a release at its last beat", x.addRelease(6, 6, 1), Due.NOT_POSSIBLE);
        Due.is("a release up to it", x.addRelease(6, 2, 2), 0);
        Due.is("a turn from its end on", x.addTurn(7, 2, -1), 2);
        Due.is("a turn at a release", x.addTurn(3, 1, -1), Due.NOT_POSSIBLE);
        x.addMove(5, 9, 2, 0, 0);
        Due.is("a release at a move", x.addRelease(5, 10, 1), Due.NOT_POSSIBLE);
        Due.is("a release behind it", x.addRelease(5, 11, 1), 4);
        Due.is("a move at a release", x.addMove(5, 11, 1, 0, 0), Due.NOT_POSSIBLE);
    }

    // No two signs OF A COLUMN cover the same beat.
    private static void otherColumnsAreFree() {
        LimbScore x = new LimbScore();
        for (int column = 0; column < 6; column++) {
            Due.is("the whole score", x.addMove(column, 0, 16, 8, 2), column);
        }
        Due.is("the whole score", x.addTurn(0, 16, 8), 6);
        Due.is("all are covered", x.count(1), 7);
    }

    // A sign can be put at a beat that a hold covers; the hold then lasts to it, and does not go
    // on behind it.
    private static void signIntoAHold() {
        LimbScore x = new LimbScore();
        x.addHold(6, 0);
        Due.is("a turn", x.addTurn(5, 3, 1), 1);
        Due.is("the hold lasts to it", x.sign(0, 2), 5);
        Due.is("before it", x.signAt(6, 4), 0);
        Due.is("at it", x.signAt(6, 5), 1);
        Due.is("its last beat", x.signAt(6, 7), 1);
        Due.is("not behind it", x.signAt(6, 8), Due.NOT_FOUND);
        Due.is("the hold's beats", x.covered(6, 1), 5);
        x.addHold(0, 0);
        x.addMove(0, 14, 2, 1, 1);
        Due.is("a move at the end", x.sign(0, 2), 14);
        x.addHold(1, 0);
        Due.is("a release behind the begin", x.addRelease(1, 1, 15), 3);
        Due.is("one beat is left", x.sign(1, 2), 1);
    }

    // .. if no sign of the column begins at one of the beats that it is to cover.
    private static void signOverTheBeginOfAHold() {
        LimbScore x = new LimbScore();
        x.addHold(4, 2);
        x.addHold(4, 8);
        Due.is("at the begin", x.addMove(4, 8, 1, 1, 1), Due.NOT_POSSIBLE);
        Due.is("over the begin", x.addMove(4, 6, 4, 1, 1), Due.NOT_POSSIBLE);
        Due.is("the begin at its last beat", x.addMove(4, 6, 3, 1, 1), Due.NOT_POSSIBLE);
        Due.is("up to the begin", x.addMove(4, 6, 2, 1, 1), 1);
        Due.is("before the first begin", x.addRelease(4, 0, 3), Due.NOT_POSSIBLE);
        Due.is("up to the first begin", x.addRelease(4, 0, 2), 0);
        Due.is("behind the begin", x.addMove(4, 9, 1, 1, 1), 4);
        Due.signsAre("holds", x, "4 0 2 3 - - -", "4 2 6 1 - - -", "4 6 8 0 1 1 -",
                "4 8 9 1 - - -", "4 9 10 0 1 1 -");
    }

    // addHold: NOT_POSSIBLE if the beat is covered by a sign of the column that is no hold.
    private static void holdOntoSigns() {
        LimbScore x = new LimbScore();
        x.addMove(5, 4, 3, 1, 1);
        x.addTurn(4, 3, 1);
        x.addRelease(0, 4, 3);
        for (int column : new int[] {0, 5, 6}) {
            for (int beat = 4; beat < 7; beat++) {
                Due.is("a hold onto a sign", x.addHold(column, beat), Due.NOT_POSSIBLE);
            }
            Due.is("before it", x.addHold(column, 3), x.signAt(column, 3));
            Due.is("one beat long", x.sign(x.signAt(column, 3), 2), 4);
            Due.is("behind it", x.addHold(column, 7), x.signAt(column, 7));
            Due.is("on to the end", x.sign(x.signAt(column, 7), 2), 16);
        }
        Due.is("all are there", x.count(1), 9);
    }

    // .. or a hold of the column begins there.
    private static void holdIntoAHold() {
        LimbScore x = new LimbScore();
        x.addHold(6, 4);
        Due.is("at its begin", x.addHold(6, 4), Due.NOT_POSSIBLE);
        Due.is("in another column", x.addHold(5, 4), 0);
        Due.is("behind its begin", x.addHold(6, 5), 2);
        Due.is("before its begin", x.addHold(6, 3), 0);
        Due.is("at the last beat", x.addHold(6, 15), 4);
        Due.signsAre("holds", x, "6 3 4 1 - - -", "5 4 16 1 - - -", "6 4 5 1 - - -",
                "6 5 15 1 - - -", "6 15 16 1 - - -");
    }

    // removeSign: Returns the number of signs that remain; INVALID_ARGUMENT.
    private static void removeSignNumbers() {
        LimbScore x = Due.laid(16, "0m1n2;1m2l3;2m3h4;");
        for (int wrong : new int[] {-1, 3, MIN, MAX}) {
            Due.is("removeSign(" + wrong + ")", x.removeSign(wrong), Due.INVALID);
        }
        Due.is("the last one", x.removeSign(2), 2);
        Due.is("no sign 2 any more", x.removeSign(2), Due.INVALID);
        Due.is("the first one", x.removeSign(0), 1);
        Due.signsAre("one is left", x, "1 0 3 0 2 0 -");
        Due.is("the only one", x.removeSign(0), 0);
        Due.is("none is left", x.removeSign(0), Due.INVALID);
    }

    // (A hold before it in its column lasts on then.)
    private static void removedSignFreesAHold() {
        LimbScore x = Due.laid(16, "4k;4e2;4m1n2;4r1;");
        Due.is("to the move", x.sign(0, 2), 3);
        Due.is("without the move", x.removeSign(1), 2);
        Due.is("to the release", x.sign(0, 2), 5);
        Due.is("without the release", x.removeSign(1), 1);
        Due.is("to the end", x.sign(0, 2), 16);
        Due.is("a beat that was the move's", x.signAt(4, 4), 0);
        Due.is("a beat behind all", x.signAt(4, 15), 0);
    }

    // sign: NOT_FOUND for 4 and 5 if it is no move, for 6 if it is no turn.
    private static void propertiesOfSigns() {
        LimbScore x = new LimbScore();
        x.addMove(0, 0, 2, 0, 0);
        x.addHold(1, 0);
        x.addRelease(2, 0, 3);
        x.addTurn(0, 4, -8);
        Due.signsAre("properties", x, "0 0 2 0 0 0 -", "1 0 16 1 - - -", "2 0 3 3 - - -",
                "6 0 4 2 - - -8");
        for (int number = 0; number < 4; number++) {
            Due.is("the direction", x.sign(number, 4), number == 0 ? 0 : Due.NOT_FOUND);
            Due.is("the level", x.sign(number, 5), number == 0 ? 0 : Due.NOT_FOUND);
            Due.is("the amount", x.sign(number, 6), number == 3 ? -8 : Due.NOT_FOUND);
        }
    }

    // sign: INVALID_ARGUMENT if an argument is out of range (rather than NOT_FOUND).
    private static void propertiesOutOfRange() {
        LimbScore x = new LimbScore();
        Due.is("no sign at all", x.sign(0, 0), Due.INVALID);
        x.addHold(1, 0);
        for (int wrong : new int[] {-1, 1, MIN, MAX}) {
            for (int what = 0; what < 7; what++) {
                Due.is("sign(" + wrong + ", " + what + ")", x.sign(wrong, what), Due.INVALID);
            }
        }
        for (int wrong : new int[] {-1, 7, MIN, MAX}) {
            Due.is("sign(0, " + wrong + ")", x.sign(0, wrong), Due.INVALID);
        }
    }

    // signAt: NOT_FOUND if there is none.
    private static void signAtNone() {
        LimbScore x = new LimbScore();
        for (int beat = 0; beat < 16; beat++) {
            Due.is("an empty column", x.signAt(6, beat), Due.NOT_FOUND);
        }
        x.addMove(5, 8, 1, 1, 1);
        Due.is("another column", x.signAt(4, 8), Due.NOT_FOUND);
        Due.is("the beat before", x.signAt(5, 7), Due.NOT_FOUND);
        Due.is("the beat behind", x.signAt(5, 9), Due.NOT_FOUND);
        Due.is("the beat", x.signAt(5, 8), 0);
        x.removeSign(0);
        Due.is("removed", x.signAt(5, 8), Due.NOT_FOUND);
    }
}
