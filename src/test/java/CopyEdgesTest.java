/**
 * The edges that the document names in promise 8, copyPhrase. Above each test stands the sentence
 * that it holds the class to.
 */
public final class CopyEdgesTest {
    private static final int MAX = Integer.MAX_VALUE;
    private static final int MIN = Integer.MIN_VALUE;

    public static void main(String[] args) {
        firstBeat();
        lastBeat();
        toBeat();
        flags();
        beginsFromFirstOn();
        beginsBeforeLast();
        endsAtMostLast();
        holdsWhateverTheirEnd();
        putLaterOrEarlier();
        mirroredColumns();
        mirroredDirections();
        mirroredAmounts();
        reversedBegins();
        reversedHold();
        reversedAmounts();
        mirroredAndReversedAmounts();
        beyondTheEnd();
        reversedBeyondTheEnd();
        holdBeyondTheEnd();
        couldNotBeAdded();
        laterCopyCouldNotBeAdded();
        copiesCutHolds();
        copiesCutOneAnother();
        moreThanSixty();
        notPossibleBeforeLimit();
        limitForEachCopy();
        nothingToCopy();
        originalsStay();
        Due.end();
    }

    private static void isCopied(LimbScore x, int due, int first, int last, int to, int mirrored,
            int reversed) {
        Due.is("copyPhrase(" + first + ", " + last + ", " + to + ", " + mirrored + ", " + reversed
                + ")", x.copyPhrase(first, last, to, mirrored, reversed), due);
    }

    // first: a beat.
    private static void firstBeat() {
        LimbScore x = new LimbScore();
        isCopied(x, Due.INVALID, -1, 4, 0, 0, 0);
        isCopied(x, Due.INVALID, 16, 16, 0, 0, 0);
        isCopied(x, Due.INVALID, 16, 17, 0, 0, 0);
        isCopied(x, Due.INVALID, MIN, 4, 0, 0, 0);
        isCopied(x, Due.INVALID, MAX, MIN, 0, 0, 0);
        isCopied(x, 0, 0, 1, 0, 0, 0);
        isCopied(x, 0, 15, 16, 0, 0, 0);
    }

    // last: first + 1 to B: the beat behind the phrase.
    private static void lastBeat() {
        LimbScore x = new LimbScore();
        isCopied(x, Due.INVALID, 0, 0, 0, 0, 0);
        isCopied(x, Due.INVALID, 0, 17, 0, 0, 0);
        isCopied(x, Due.INVALID, 7, 7, 0, 0, 0);
        isCopied(x, Due.INVALID, 7, 6, 0, 0, 0);
        isCopied(x, Due.INVALID, 15, 15, 0, 0, 0);
        isCopied(x, Due.INVALID, 7, MIN, 0, 0, 0);
        isCopied(x, Due.INVALID, 7, MAX, 0, 0, 0);
        isCopied(x, 0, 0, 16, 0, 0, 0);
        isCopied(x, 0, 7, 8, 0, 0, 0);
    }

    // to: a beat.
    private static void toBeat() {
        LimbScore x = new LimbScore();
        isCopied(x, Due.INVALID, 0, 16, -1, 0, 0);
        isCopied(x, Due.INVALID, 0, 16, 16, 0, 0);
        isCopied(x, Due.INVALID, 0, 1, MIN, 0, 1);
        isCopied(x, Due.INVALID, 0, 1, MAX, 0, 1);
        isCopied(x, 0, 0, 16, 0, 0, 0);
        isCopied(x, 0, 0, 16, 15, 0, 0);
    }

    // mirrored: 1 or 0; reversed: 1 or 0.
    private static void flags() {
        LimbScore x = new LimbScore();
        for (int wrong : new int[] {-1, 2, MIN, MAX}) {
            isCopied(x, Due.INVALID, 0, 4, 8, wrong, 0);
            isCopied(x, Due.INVALID, 0, 4, 8, 0, wrong);
        }
        Due.is("no change", x.count(3), 0);
        isCopied(x, 0, 0, 4, 8, 0, 1);
        isCopied(x, 0, 0, 4, 8, 1, 0);
        isCopied(x, 0, 0, 4, 8, 1, 1);
        Due.is("three changes", x.count(3), 3);
    }

    // All signs whose begins are from a beat on ..
    private static void beginsFromFirstOn() {
        LimbScore x = Due.laid(16, "4e2;4m1n2;5e3;5m2l1;");
        isCopied(x, 1, 3, 4, 10, 0, 0);
        Due.signsAre("from 3 on", x, "4 2 4 0 1 1 -", "5 3 4 0 2 0 -", "5 10 11 0 2 0 -");
        x.undo();
        isCopied(x, 2, 2, 4, 10, 0, 0);
        Due.signsAre("from 2 on", x, "4 2 4 0 1 1 -", "5 3 4 0 2 0 -", "4 10 12 0 1 1 -",
                "5 11 12 0 2 0 -");
    }

    // .. and before another beat ..
    private static void beginsBeforeLast() {
        LimbScore x = Due.laid(16, "4e3;4k;5e4;5k;");
        isCopied(x, 1, 0, 4, 8, 0, 0);
        Due.signsAre("before 4", x, "4 3 11 1 - - -", "5 4 16 1 - - -", "4 11 16 1 - - -");
        x.undo();
        isCopied(x, 2, 0, 5, 8, 0, 0);
        x.undo();
        isCopied(x, 0, 0, 3, 8, 0, 0);
        isCopied(x, 0, 5, 16, 8, 0, 0);
    }

    // .. and whose ends, but for holds, are at most that other beat.
    private static void endsAtMostLast() {
        LimbScore x = Due.laid(16, "0e1;0m3n4;3e2;3r3;6e3;6t-4/2;");
        isCopied(x, 0, 0, 4, 8, 0, 0);
        isCopied(x, 3, 0, 5, 8, 0, 0);
        Due.signsAre("ends at 5", x, "0 1 5 0 3 1 -", "3 2 5 3 - - -", "6 3 5 2 - - -4",
                "0 9 13 0 3 1 -", "3 10 13 3 - - -", "6 11 13 2 - - -4");
    }

    // (but for holds): a hold is copied though it lasts beyond the phrase.
    private static void holdsWhateverTheirEnd() {
        LimbScore x = Due.laid(16, "1e3;1k;");
        Due.is("it lasts to 16", x.sign(0, 2), 16);
        isCopied(x, 1, 3, 4, 9, 0, 0);
        Due.signsAre("a hold", x, "1 3 9 1 - - -", "1 9 16 1 - - -");
    }

    // Are put so many beats later or earlier that the first beat becomes a certain beat.
    private static void putLaterOrEarlier() {
        LimbScore x = Due.laid(16, "4e8;4m8h2;");
        isCopied(x, 1, 8, 10, 14, 0, 0);
        Due.is("later", x.signAt(4, 15), 1);
        isCopied(x, 1, 8, 10, 0, 0, 0);
        Due.is("earlier", x.signAt(4, 0), 0);
        isCopied(x, 1, 7, 10, 1, 0, 0);
        Due.is("the first beat is empty", x.sign(1, 1), 2);
        isCopied(x, Due.NOT_POSSIBLE, 8, 10, 8, 0, 0);
        Due.signsAre("later or earlier", x, "4 0 2 0 8 2 -", "4 2 4 0 8 2 -", "4 8 10 0 8 2 -",
                "4 14 16 0 8 2 -");
    }

    // A mirrored copy exchanges the columns 0 and 1, 2 and 3, 4 and 5 .. (and not 6).
    private static void mirroredColumns() {
        int[] other = {1, 0, 3, 2, 5, 4, 6};
        for (int column = 0; column < 7; column++) {
            LimbScore x = Due.laid(16, column + "r2;");
            isCopied(x, 1, 0, 2, 8, 1, 0);
            Due.is("the other column of " + column, x.sign(1, 0), other[column]);
            Due.is("it covers its beats", x.signAt(other[column], 9), 1);
        }
        LimbScore x = Due.laid(16, "0r1;1m1n1;2k;3r1;4m2l1;5k;6r1;");
        isCopied(x, 7, 0, 1, 4, 1, 0);
        Due.signsAre("all columns", x, "0 0 1 3 - - -", "1 0 1 0 1 1 -", "2 0 4 1 - - -",
                "3 0 1 3 - - -", "4 0 1 0 2 0 -", "5 0 4 1 - - -", "6 0 1 3 - - -",
                "0 4 5 0 1 1 -", "1 4 5 3 - - -", "2 4 5 3 - - -", "3 4 16 1 - - -",
                "4 4 16 1 - - -", "5 4 5 0 8 0 -", "6 4 5 3 - - -");
    }

    // .. left and right of directions ..
    private static void mirroredDirections() {
        int[] other = {0, 1, 8, 7, 6, 5, 4, 3, 2};
        for (int direction = 0; direction <= 8; direction++) {
            LimbScore x = Due.laid(16, "2m" + direction + "h2;");
            isCopied(x, 1, 0, 2, 8, 1, 0);
            Due.is("the other direction of " + direction, x.sign(1, 4), other[direction]);
            Due.is("the level stays", x.sign(1, 5), 2);
            isCopied(x, 1, 8, 10, 12, 1, 0);
            Due.is("mirrored again", x.sign(2, 4), direction);
        }
    }

    // .. and the signs of amounts.
    private static void mirroredAmounts() {
        for (int amount = -8; amount <= 8; amount++) {
            if (amount != 0) {
                LimbScore x = new LimbScore();
                x.addTurn(0, 2, amount);
                isCopied(x, 1, 0, 2, 8, 1, 0);
                Due.is("the amount of " + amount, x.sign(1, 6), -amount);
                isCopied(x, 1, 0, 2, 10, 0, 0);
                Due.is("not mirrored", x.sign(2, 6), amount);
            }
        }
    }

    // A sign with the begin b and the end e of the phrase from first to last has the begin
    // to + last - e there.
    private static void reversedBegins() {
        LimbScore x = Due.laid(16, "4e1;4m1n2;4m2n1;5e3;5r2;");
        isCopied(x, 3, 1, 6, 9, 0, 1);
        Due.signsAre("reversed", x, "4 1 3 0 1 1 -", "4 3 4 0 2 1 -", "5 3 5 3 - - -",
                "5 10 12 3 - - -", "4 11 12 0 2 1 -", "4 12 14 0 1 1 -");
        x.undo();
        isCopied(x, 2, 1, 4, 0, 1, 1);
        Due.signsAre("mirrored, too", x, "5 0 1 0 8 1 -", "4 1 3 0 1 1 -", "5 1 3 0 1 1 -",
                "4 3 4 0 2 1 -", "5 3 5 3 - - -");
        isCopied(x, Due.NOT_POSSIBLE, 1, 3, 1, 0, 1);
    }

    // (a hold counts as one beat long for this)
    private static void reversedHold() {
        LimbScore x = Due.laid(16, "1k;1e2;1m1n1;");
        isCopied(x, 2, 0, 4, 8, 0, 1);
        Due.signsAre("a hold at the first beat", x, "1 0 3 1 - - -", "1 3 4 0 1 1 -",
                "1 8 9 0 1 1 -", "1 11 16 1 - - -");
        x.reset(16);
        x.addHold(6, 3);
        isCopied(x, 1, 0, 4, 8, 0, 1);
        Due.signsAre("a hold at the last beat", x, "6 3 8 1 - - -", "6 8 16 1 - - -");
    }

    // .. and amounts change their signs, too ..
    private static void reversedAmounts() {
        for (int amount = -8; amount <= 8; amount++) {
            if (amount != 0) {
                LimbScore x = new LimbScore();
                x.addTurn(0, 2, amount);
                isCopied(x, 1, 0, 2, 8, 0, 1);
                Due.is("the amount of " + amount, x.sign(1, 6), -amount);
            }
        }
        LimbScore x = Due.laid(16, "5m2h1;");
        isCopied(x, 1, 0, 1, 8, 0, 1);
        Due.signsAre("directions and columns stay", x, "5 0 1 0 2 2 -", "5 8 9 0 2 2 -");
    }

    // .. (twice, if it is mirrored as well).
    private static void mirroredAndReversedAmounts() {
        for (int amount = -8; amount <= 8; amount++) {
            if (amount != 0) {
                LimbScore x = new LimbScore();
                x.addTurn(0, 2, amount);
                isCopied(x, 1, 0, 2, 8, 1, 1);
                Due.is("the amount of " + amount, x.sign(1, 6), amount);
            }
        }
    }

    // NOT_POSSIBLE if a copy would go beyond the end of the score.
    private static void beyondTheEnd() {
        for (int beats : new int[] {8, 16, 48}) {
            LimbScore x = Due.laid(beats, "2m1n3;");
            isCopied(x, Due.NOT_POSSIBLE, 0, 3, beats - 2, 0, 0);
            isCopied(x, Due.NOT_POSSIBLE, 0, 3, beats - 1, 1, 0);
            isCopied(x, Due.NOT_POSSIBLE, 0, beats, beats - 1, 0, 0);
            isCopied(x, 1, 0, beats, beats - 3, 0, 0);
            Due.is("at the end", x.sign(1, 2), beats);
        }
    }

    // (a reversed copy, too: its begin is to + last - e.)
    private static void reversedBeyondTheEnd() {
        LimbScore x = Due.laid(48, "2m1n3;");
        isCopied(x, Due.NOT_POSSIBLE, 0, 4, 45, 0, 1);
        isCopied(x, Due.NOT_POSSIBLE, 0, 48, 1, 0, 1);
        isCopied(x, Due.NOT_POSSIBLE, 0, 48, 47, 0, 1);
        isCopied(x, Due.NOT_POSSIBLE, 0, 48, 47, 1, 1);
        isCopied(x, 1, 0, 4, 44, 0, 1);
        Due.is("at the end", x.sign(1, 2), 48);
        isCopied(x, 1, 0, 45, 0, 0, 1);
        Due.is("before it", x.sign(1, 1), 42);
    }

    // (a hold goes beyond the end if there is no beat for its begin.)
    private static void holdBeyondTheEnd() {
        LimbScore x = Due.laid(16, "3e2;3k;");
        isCopied(x, Due.NOT_POSSIBLE, 0, 3, 14, 0, 0);
        isCopied(x, Due.NOT_POSSIBLE, 0, 4, 15, 0, 1);
        isCopied(x, 1, 0, 3, 13, 0, 0);
        Due.is("at the last beat", x.sign(1, 1), 15);
        isCopied(x, 1, 0, 4, 13, 1, 1);
        Due.signsAre("holds", x, "3 2 15 1 - - -", "2 14 16 1 - - -", "3 15 16 1 - - -");
    }

    // NOT_POSSIBLE if a copy could not be added.
    private static void couldNotBeAdded() {
        LimbScore x = Due.laid(16, "4m1n2;4e6;4k;5k;6t+1/1;6e9;6r2;");
        isCopied(x, Due.NOT_POSSIBLE, 0, 2, 7, 0, 0);
        isCopied(x, Due.NOT_POSSIBLE, 0, 2, 8, 0, 0);
        isCopied(x, Due.NOT_POSSIBLE, 0, 2, 1, 0, 0);
        isCopied(x, Due.NOT_POSSIBLE, 0, 2, 10, 0, 0);
        isCopied(x, Due.NOT_POSSIBLE, 0, 2, 11, 0, 0);
        isCopied(x, 3, 0, 2, 12, 0, 0);
        isCopied(x, 3, 0, 2, 4, 0, 0);
        Due.signsAre("added", x, "4 0 2 0 1 1 -", "5 0 4 1 - - -", "6 0 1 2 - - 1",
                "4 4 6 0 1 1 -", "5 4 12 1 - - -", "6 4 5 2 - - 1", "4 8 12 1 - - -",
                "6 10 12 3 - - -", "4 12 14 0 1 1 -", "5 12 16 1 - - -", "6 12 13 2 - - 1");
    }

    // (Then nothing is copied.)
    private static void laterCopyCouldNotBeAdded() {
        LimbScore x = Due.laid(16, "0m1n1;1e1;1m2n1;2e2;2m3n1;2e8;2r1;");
        String before = Due.stateOf(x);
        isCopied(x, Due.NOT_POSSIBLE, 0, 3, 9, 0, 0);
        Due.same("the last copy hits a sign", Due.stateOf(x), before);
        isCopied(x, Due.NOT_POSSIBLE, 0, 3, 14, 0, 0);
        Due.same("the last copy is beyond the end", Due.stateOf(x), before);
        Due.is("undo", x.undo(), 1);
        Due.is("the state before", x.count(1), 0);
    }

    // (a sign can be put at a beat that a hold covers; the hold then lasts to it.)
    private static void copiesCutHolds() {
        LimbScore x = Due.laid(16, "0m1n2;0e2;0k;");
        isCopied(x, 1, 0, 2, 10, 0, 0);
        Due.signsAre("a cut hold", x, "0 0 2 0 1 1 -", "0 4 10 1 - - -", "0 10 12 0 1 1 -");
        isCopied(x, 1, 4, 5, 14, 0, 0);
        Due.is("a hold that is not", x.sign(3, 2), 16);
        isCopied(x, Due.NOT_POSSIBLE, 4, 5, 11, 0, 0);
        isCopied(x, 1, 4, 5, 12, 0, 1);
        Due.is("a cut copy", x.sign(3, 2), 14);
    }

    // The copies are added one after the other.
    private static void copiesCutOneAnother() {
        LimbScore x = Due.laid(16, "5k;5e1;5m1n2;5k;");
        isCopied(x, 3, 0, 5, 8, 0, 0);
        Due.signsAre("in order", x, "5 0 2 1 - - -", "5 2 4 0 1 1 -", "5 4 8 1 - - -",
                "5 8 10 1 - - -", "5 10 12 0 1 1 -", "5 12 16 1 - - -");
        x.undo();
        isCopied(x, 3, 0, 5, 8, 0, 1);
        Due.signsAre("reversed", x, "5 0 2 1 - - -", "5 2 4 0 1 1 -", "5 4 8 1 - - -",
                "5 8 9 1 - - -", "5 9 11 0 1 1 -", "5 12 16 1 - - -");
    }

    private static LimbScore withSigns(int signs) {
        LimbScore x = new LimbScore();
        x.reset(48);
        for (int i = 0; i < signs; i++) {
            x.addRelease(2 * (i % 2), i / 2, 1);
        }
        Due.is("signs", x.count(1), signs);
        return x;
    }

    // LIMIT_REACHED if there would be more than 60 signs.
    private static void moreThanSixty() {
        LimbScore x = withSigns(50);
        isCopied(x, Due.LIMIT, 0, 6, 30, 0, 0);
        Due.is("nothing is copied", x.count(1), 50);
        Due.is("nothing is there", x.signAt(0, 30), Due.NOT_FOUND);
        isCopied(x, 10, 0, 5, 30, 0, 0);
        Due.is("sixty", x.count(1), 60);
        isCopied(x, Due.LIMIT, 0, 1, 40, 0, 0);
        x.removeSign(59);
        isCopied(x, Due.LIMIT, 0, 1, 40, 1, 1);
        Due.is("nothing is copied", x.count(1), 59);
        x.removeSign(0);
        isCopied(x, 1, 0, 1, 40, 1, 1);
        isCopied(x, 1, 0, 1, 41, 1, 0);
        Due.is("sixty", x.count(1), 60);
    }

    // NOT_POSSIBLE is returned rather than LIMIT_REACHED.
    private static void notPossibleBeforeLimit() {
        LimbScore x = withSigns(60);
        isCopied(x, Due.NOT_POSSIBLE, 0, 1, 29, 0, 0);
        isCopied(x, Due.NOT_POSSIBLE, 0, 10, 20, 0, 0);
        isCopied(x, Due.NOT_POSSIBLE, 0, 30, 19, 0, 0);
        isCopied(x, Due.NOT_POSSIBLE, 25, 30, 44, 0, 0);
        isCopied(x, Due.LIMIT, 25, 30, 43, 0, 0);
        isCopied(x, Due.INVALID, 0, 1, 29, 0, 2);
        isCopied(x, 0, 30, 48, 0, 0, 0);
    }

    // (all sixty as copies are 120.)
    private static void limitForEachCopy() {
        LimbScore x = withSigns(60);
        for (int reversed = 0; reversed < 2; reversed++) {
            isCopied(x, Due.NOT_POSSIBLE, 0, 30, 18, 0, reversed);
            isCopied(x, Due.LIMIT, 0, 30, 18, 1, reversed);
            isCopied(x, Due.LIMIT, 0, 30, 0, 1, reversed);
            isCopied(x, Due.NOT_POSSIBLE, 0, 30, 19, 1, reversed);
        }
        Due.is("still sixty", x.count(1), 60);
    }

    // Returns the number of signs that are copied. (The changes are the calls of .. copyPhrase ..
    // that return no error, also if nothing becomes different.)
    private static void nothingToCopy() {
        LimbScore x = new LimbScore();
        isCopied(x, 0, 0, 16, 0, 1, 1);
        x.addMove(0, 2, 2, 1, 1);
        isCopied(x, 0, 2, 3, 15, 0, 0);
        isCopied(x, 0, 3, 16, 2, 0, 0);
        Due.is("four changes", x.count(3), 4);
        Due.is("one sign", x.count(1), 1);
    }

    // (the signs that are copied stay.)
    private static void originalsStay() {
        LimbScore x = Due.laid(16, "0m2l2;6t+3/3;");
        isCopied(x, 2, 0, 3, 3, 1, 1);
        isCopied(x, 4, 0, 6, 8, 1, 1);
        Due.signsAre("copies of copies", x, "0 0 2 0 2 0 -", "6 0 3 2 - - 3", "6 3 6 2 - - 3",
                "1 4 6 0 8 0 -", "0 8 10 0 2 0 -", "6 8 11 2 - - 3", "6 11 14 2 - - 3",
                "1 12 14 0 8 0 -");
    }
}
