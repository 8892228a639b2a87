/**
 * The edges that the document names in "Floor" and in the promises 22 to 25. Above each test
 * stands the sentence that it holds the class to.
 */
public final class FloorEdgesTest {
    private static final int MAX = Integer.MAX_VALUE;
    private static final int MIN = Integer.MIN_VALUE;
    private static final int[][] UNITS =
        {{0, 1}, {1, 1}, {1, 0}, {1, -1}, {0, -1}, {-1, -1}, {-1, 0}, {-1, 1}};

    public static void main(String[] args) {
        firstPlace();
        beatsOfTheFloor();
        whatOfTheFloor();
        turnAtItsEnd();
        facingsModuloEight();
        moveAtItsEnd();
        onlyMovesOfFeet();
        inPlace();
        unitsOfFacings();
        facingAtTheBegin();
        oneUnit();
        oneUnitEach();
        oneUnitInPlace();
        twoUnits();
        endOfTheScore();
        firstBeatAgain();
        againAtTheLastBeat();
        neverElsewhere();
        elsewhereAtOneBeat();
        neverAgain();
        greaterOfBoth();
        absoluteValues();
        farthestOfAllBeats();
        farthestOfAll();
        floorAfterChanges();
        alikeFirst();
        alikeLast();
        alikeTo();
        alikeMirrored();
        alikeByNone();
        alikeProperties();
        alikeTurns();
        alikeInEachColumn();
        alikeMirroredColumns();
        alikeMirroredDirections();
        alikeMirroredAmounts();
        alikeBegins();
        alikeOverlapping();
        alikeWholeScore();
        Due.end();
    }

    private static void isAt(LimbScore x, int beat, int dueX, int dueY, int dueFacing) {
        Due.is("x at " + beat, x.floor(beat, 0), dueX);
        Due.is("y at " + beat, x.floor(beat, 1), dueY);
        Due.is("the facing at " + beat, x.floor(beat, 2), dueFacing);
    }

    // The dancer begins at the place (0, 0) with the facing 0.
    private static void firstPlace() {
        LimbScore x = new LimbScore();
        isAt(x, 0, 0, 0, 0);
        isAt(x, 16, 0, 0, 0);
        x = Due.laid(4, "0m1n1;6t+1/1;");
        isAt(x, 0, 0, 0, 0);
        isAt(x, 1, 0, 2, 1);
    }

    // floor, beat: 0 to B.
    private static void beatsOfTheFloor() {
        for (int beats : new int[] {4, 16, 48}) {
            LimbScore x = Due.laid(beats, "0m2n1;");
            for (int wrong : new int[] {-1, beats + 1, MIN, MAX}) {
                for (int what = 0; what < 3; what++) {
                    Due.is("floor(" + wrong + ")", x.floor(wrong, what), Due.INVALID);
                }
            }
            isAt(x, 0, 0, 0, 0);
            isAt(x, beats - 1, 2, 2, 0);
            isAt(x, beats, 2, 2, 0);
        }
    }

    // floor, what: 0: x; 1: y; 2: the facing; INVALID_ARGUMENT if an argument is out of range.
    private static void whatOfTheFloor() {
        LimbScore x = Due.laid(16, "0m4n1;0m5n1;6t-3/2;");
        Due.is("x", x.floor(2, 0), 2);
        Due.is("y", x.floor(2, 1), -4);
        Due.is("the facing", x.floor(2, 2), 5);
        for (int wrong : new int[] {-1, 3, MIN, MAX}) {
            Due.is("floor(0, " + wrong + ")", x.floor(0, wrong), Due.INVALID);
            Due.is("floor(16, " + wrong + ")", x.floor(16, wrong), Due.INVALID);
        }
    }

    // A turn adds its amount to the facing at its end.
    private static void turnAtItsEnd() {
        LimbScore x = Due.laid(8, "6e1;6t+3/3;6t+1/1;6r1;6k;");
        int[] due = {0, 0, 0, 0, 3, 4, 4, 4, 4};
        for (int beat = 0; beat <= 8; beat++) {
            Due.is("the facing at " + beat, x.floor(beat, 2), due[beat]);
        }
    }

    // (modulo 8); facings being 0 to 7.
    private static void facingsModuloEight() {
        for (int amount = -8; amount <= 8; amount++) {
            if (amount != 0) {
                LimbScore x = new LimbScore();
                int facing = 0;
                for (int turn = 0; turn < 16; turn++) {
                    x.addTurn(turn, 1, amount);
                    facing = (facing + amount + 8) % 8;
                    Due.is("turned by " + amount, x.floor(turn + 1, 2), facing);
                }
            }
        }
        Due.is("7 and 1", Due.laid(4, "6t+7/1;6t+1/1;").floor(2, 2), 0);
        Due.is("0 and -1", Due.laid(4, "6t-1/1;").floor(1, 2), 7);
        Due.is("7 and 8", Due.laid(4, "6t+7/1;6t+8/1;").floor(2, 2), 7);
        Due.is("1 and -8", Due.laid(4, "6t+1/1;6t-8/1;").floor(2, 2), 1);
    }

    // A move of a foot .. moves the dancer at its end.
    private static void moveAtItsEnd() {
        for (int foot = 0; foot < 2; foot++) {
            LimbScore x = Due.laid(8, "fe1;fm1n3;fe1;fm3n1;".replace("f", "" + foot));
            isAt(x, 1, 0, 0, 0);
            isAt(x, 3, 0, 0, 0);
            isAt(x, 4, 0, 2, 0);
            isAt(x, 5, 0, 2, 0);
            isAt(x, 6, 2, 2, 0);
            isAt(x, 8, 2, 2, 0);
        }
    }

    // A move OF A FOOT. (of no other limb; and no other kind of sign.)
    private static void onlyMovesOfFeet() {
        LimbScore x = Due.laid(8, "2m1n2;3m2n2;4m3n2;5m4n2;0k;0r2;1r2;1k;6r2;6k;");
        for (int beat = 0; beat <= 8; beat++) {
            isAt(x, beat, 0, 0, 0);
        }
    }

    // .. with a direction d other than 0.
    private static void inPlace() {
        LimbScore x = Due.laid(8, "6t+3/1;0m0n2;0m0h1;1m0l8;");
        for (int beat = 1; beat <= 8; beat++) {
            isAt(x, beat, 0, 0, 3);
        }
    }

    // u times the unit of the facing f + d - 1 (modulo 8). The units of the facings 0 to 7 ..
    private static void unitsOfFacings() {
        for (int facing = 0; facing < 8; facing++) {
            for (int direction = 1; direction <= 8; direction++) {
                LimbScore x = new LimbScore();
                x.addTurn(0, 1, facing - 8);
                x.addMove(direction % 2, 1, 1, direction, direction % 3);
                int[] unit = UNITS[(facing + direction - 1) % 8];
                isAt(x, 1, 0, 0, facing);
                isAt(x, 2, 2 * unit[0], 2 * unit[1], facing);
            }
        }
    }

    // f is the facing at its begin. What happens at an end that is a beat t is there at the beat t
    // (so also for a begin at t).
    private static void facingAtTheBegin() {
        isAt(Due.laid(8, "6t+2/2;0e2;0m1n1;"), 3, 2, 0, 2);
        isAt(Due.laid(8, "6t+2/2;0e1;0m1n1;"), 2, 0, 2, 2);
        isAt(Due.laid(8, "6t+2/2;0e1;0m1n2;"), 3, 0, 2, 2);
        isAt(Due.laid(8, "6t+2/3;0e2;0m1n6;"), 8, 0, 2, 2);
        isAt(Due.laid(8, "6t+2/8;0m1n8;"), 8, 0, 2, 2);
        isAt(Due.laid(8, "6e2;6t+4/1;0m1n2;0e1;0m1n2;"), 5, 0, 0, 4);
    }

    // u is 1 if a move of the other foot .. has the same end.
    private static void oneUnit() {
        LimbScore x = Due.laid(8, "0m1n4;1e3;1m3n1;");
        isAt(x, 3, 0, 0, 0);
        isAt(x, 4, 1, 1, 0);
        isAt(x, 5, 1, 1, 0);
        x = Due.laid(8, "0m1n8;1m1n8;");
        isAt(x, 7, 0, 0, 0);
        isAt(x, 8, 0, 2, 0);
    }

    // (each of the two moves from the facing at its own begin.)
    private static void oneUnitEach() {
        LimbScore x = Due.laid(8, "6e1;6t+2/1;0m1n4;1e2;1m1n2;");
        isAt(x, 4, 1, 1, 2);
        x = Due.laid(8, "0m1n2;1m5n2;");
        isAt(x, 2, 0, 0, 0);
    }

    // (also one in place)
    private static void oneUnitInPlace() {
        isAt(Due.laid(8, "0m2n2;1m0n2;"), 2, 1, 1, 0);
        isAt(Due.laid(8, "0e1;0m0n1;1m6n2;"), 2, -1, -1, 0);
        isAt(Due.laid(8, "0m0n2;1m0n2;"), 2, 0, 0, 0);
    }

    // .. otherwise 2.
    private static void twoUnits() {
        isAt(Due.laid(8, "0m1n2;1m1n1;"), 2, 0, 4, 0);
        isAt(Due.laid(8, "0m1n2;1m1n3;"), 3, 0, 4, 0);
        isAt(Due.laid(8, "0m1n2;1m1n3;"), 2, 0, 2, 0);
        isAt(Due.laid(8, "0m1n2;1r2;"), 2, 0, 2, 0);
        isAt(Due.laid(8, "0m1n2;1k;1e1;1r1;"), 2, 0, 2, 0);
        isAt(Due.laid(8, "0m1n2;2m1n2;3m1n2;4m1n2;5m1n2;6t+8/2;"), 2, 0, 2, 0);
        isAt(Due.laid(8, "0m1n2;0m1n2;1e2;1m0n2;"), 4, 0, 3, 0);
    }

    // (an end may be the end of the score.)
    private static void endOfTheScore() {
        for (int beats : new int[] {4, 47, 48}) {
            LimbScore x = new LimbScore();
            x.reset(beats);
            x.addMove(0, beats - 1, 1, 7, 0);
            x.addTurn(0, beats, -1);
            isAt(x, beats - 1, 0, 0, 0);
            isAt(x, beats, -2, 0, 7);
            x.addMove(1, 0, beats, 3, 0);
            isAt(x, beats, 0, 0, 7);
            x.removeSign(x.signAt(0, beats - 1));
            isAt(x, beats, 2, 0, 7);
        }
    }

    // home: Returns the first beat behind beat 0 at which the dancer is at the place (0, 0)
    // again ..
    private static void firstBeatAgain() {
        Due.is("the beat 2", Due.laid(16, "0m1n1;0m5n1;").home(), 2);
        Due.is("the first of two", Due.laid(16, "0m1n1;0m5n3;0m2n1;0m6n1;").home(), 4);
        Due.is("the next beats do not count", Due.laid(16, "0e3;0m8n2;1e9;1m4n2;").home(), 11);
        Due.is("x alone is not enough", Due.laid(16, "0m2n1;0m7n1;0m5n1;").home(), 3);
        Due.is("y alone is not enough", Due.laid(16, "0m2n1;0m5n1;0m7n1;").home(), 3);
        Due.is("with a turn", Due.laid(16, "0m1n1;6t+4/1;0m1n1;").home(), 2);
    }

    // Returns the beat, up to B.
    private static void againAtTheLastBeat() {
        Due.is("4 of 4", Due.laid(4, "0m3n1;0m7n3;").home(), 4);
        Due.is("48 of 48", Due.laid(48, "0m3n1;0m7n47;").home(), 48);
        Due.is("47 of 48", Due.laid(48, "0m3n1;0m7n46;").home(), 47);
    }

    // NOT_FOUND if there is none. (.. after having been elsewhere.)
    private static void neverElsewhere() {
        Due.is("an empty score", new LimbScore().home(), Due.NOT_FOUND);
        Due.is("in place", Due.laid(16, "0m0n1;1k;6t+4/1;").home(), Due.NOT_FOUND);
        Due.is("two that end together", Due.laid(16, "0m1n2;1m5n2;").home(), Due.NOT_FOUND);
        Due.is("elsewhere later", Due.laid(16, "0m1n2;1m5n2;0m1n1;1e4;1m5n1;").home(), 7);
    }

    private static void elsewhereAtOneBeat() {
        Due.is("at the beat 1 alone", Due.laid(16, "0m4n1;1e1;1m8n1;").home(), 2);
        Due.is("at the beat 15 alone", Due.laid(16, "0e14;0m4n1;1e15;1m8n1;").home(), 16);
    }

    private static void neverAgain() {
        Due.is("away", Due.laid(16, "0m1n1;").home(), Due.NOT_FOUND);
        Due.is("away at the end", Due.laid(16, "0e15;0m1n1;").home(), Due.NOT_FOUND);
        Due.is("past it", Due.laid(16, "0m1n1;1m0n1;0m5n1;").home(), Due.NOT_FOUND);
    }

    // farthest: the greater one of the absolute values of x and y.
    private static void greaterOfBoth() {
        Due.is("x", Due.laid(16, "0m3n1;0m2n1;").farthest(), 4);
        Due.is("y", Due.laid(16, "0m1n1;0m2n1;").farthest(), 4);
        Due.is("both", Due.laid(16, "0m2n1;1e1;1m2n1;").farthest(), 4);
    }

    private static void absoluteValues() {
        Due.is("-x", Due.laid(16, "0m7n1;0m7n1;0m1n1;").farthest(), 4);
        Due.is("-y", Due.laid(16, "0m5n1;0m5n1;0m3n1;").farthest(), 4);
        Due.is("-x and -y", Due.laid(16, "0m6n1;0m6n1;").farthest(), 4);
    }

    // .. of all beats from 0 to B.
    private static void farthestOfAllBeats() {
        Due.is("never away", new LimbScore().farthest(), 0);
        Due.is("at the beat B", Due.laid(16, "0e15;0m1n1;").farthest(), 2);
        Due.is("at the beat 48", Due.laid(48, "0e47;0m7n1;").farthest(), 2);
        Due.is("nearer at the end", Due.laid(16, "0m1n1;0m1n1;0m5n1;0m5n1;").farthest(), 4);
        Due.is("at one beat", Due.laid(16, "0m8n1;0m4n1;").farthest(), 2);
    }

    private static void farthestOfAll() {
        LimbScore x = new LimbScore();
        x.reset(48);
        for (int beat = 0; beat < 48; beat++) {
            x.addMove(beat % 2, beat, 1, 1, 1);
        }
        Due.is("48 steps", x.farthest(), 96);
        isAt(x, 48, 0, 96, 0);
    }

    // (what is removed moves and turns no more.)
    private static void floorAfterChanges() {
        LimbScore x = Due.laid(4, "6t+2/1;0e1;0m1n1;1e1;1m0n1;");
        isAt(x, 2, 1, 0, 2);
        x.removeSign(2);
        isAt(x, 2, 2, 0, 2);
        x.removeSign(0);
        isAt(x, 2, 0, 2, 0);
        x.removeSign(0);
        isAt(x, 2, 0, 0, 0);
        x.undo();
        isAt(x, 2, 0, 2, 0);
    }

    private static void isAlike(LimbScore x, int due, int first, int last, int to, int mirrored) {
        Due.is("alike(" + first + ", " + last + ", " + to + ", " + mirrored + ")",
                x.alike(first, last, to, mirrored), due);
    }

    // alike, first: a beat.
    private static void alikeFirst() {
        LimbScore x = new LimbScore();
        isAlike(x, Due.INVALID, -1, 4, 0, 0);
        isAlike(x, Due.INVALID, 16, 16, 0, 0);
        isAlike(x, Due.INVALID, 16, 17, 0, 0);
        isAlike(x, Due.INVALID, MIN, 1, 0, 0);
        isAlike(x, Due.INVALID, MAX, MIN, 0, 0);
        isAlike(x, 1, 0, 1, 0, 0);
        isAlike(x, 1, 15, 16, 0, 0);
    }

    // last: first + 1 to B: the beat behind the phrase.
    private static void alikeLast() {
        LimbScore x = new LimbScore();
        isAlike(x, Due.INVALID, 0, 0, 0, 0);
        isAlike(x, Due.INVALID, 3, 3, 0, 0);
        isAlike(x, Due.INVALID, 3, 2, 0, 0);
        isAlike(x, Due.INVALID, 0, 17, 0, 0);
        isAlike(x, Due.INVALID, 15, 17, 0, 0);
        isAlike(x, Due.INVALID, 3, MIN, 0, 0);
        isAlike(x, Due.INVALID, 3, MAX, 0, 0);
        isAlike(x, 1, 3, 4, 0, 0);
        isAlike(x, 13, 3, 16, 0, 0);
    }

    // to: at most B minus the length of the phrase.
    private static void alikeTo() {
        for (int beats : new int[] {8, 16, 48}) {
            LimbScore x = new LimbScore();
            x.reset(beats);
            isAlike(x, 3, 2, 5, beats - 3, 0);
            isAlike(x, Due.INVALID, 2, 5, beats - 2, 0);
            isAlike(x, Due.INVALID, 2, 5, -1, 0);
            isAlike(x, beats, 0, beats, 0, 1);
            isAlike(x, Due.INVALID, 0, beats, 1, 1);
            isAlike(x, 1, 0, 1, beats - 1, 0);
            isAlike(x, Due.INVALID, 0, 1, beats, 0);
            isAlike(x, Due.INVALID, 0, 1, MIN, 0);
            isAlike(x, Due.INVALID, 0, 1, MAX, 0);
        }
    }

    // mirrored: 1 if .. mirrored, otherwise 0.
    private static void alikeMirrored() {
        LimbScore x = Due.laid(16, "4k;");
        isAlike(x, 16, 0, 16, 0, 0);
        isAlike(x, 0, 0, 16, 0, 1);
        for (int wrong : new int[] {-1, 2, MIN, MAX}) {
            isAlike(x, Due.INVALID, 0, 16, 0, wrong);
        }
    }

    // In each column both beats are covered by signs of the same kind .. or by none.
    private static void alikeByNone() {
        LimbScore x = Due.laid(16, "4r1;");
        isAlike(x, 0, 0, 1, 1, 0);
        isAlike(x, 0, 1, 2, 0, 0);
        isAlike(x, 1, 1, 2, 2, 0);
        isAlike(x, 1, 0, 1, 0, 0);
        isAlike(x, 14, 0, 15, 1, 0);
    }

    // .. with the same direction, level ..
    private static void alikeProperties() {
        LimbScore x = Due.laid(16, "4m0l1;4m0n1;4m1l1;4m0l1;4k;4r1;");
        // 0 to 2: all differ, 3: as 0, 4: a hold, 5: a release, 6: none
        for (int beat = 0; beat < 8; beat++) {
            for (int other = 0; other < 8; other++) {
                boolean same = beat == other || beat + other == 3 && beat * other == 0
                        || beat + other == 13;
                isAlike(x, same ? 1 : 0, beat, beat + 1, other, 0);
            }
        }
    }

    // .. and amount.
    private static void alikeTurns() {
        LimbScore x = new LimbScore();
        for (int amount = -8; amount < 8; amount++) {
            x.addTurn(amount + 8, 1, amount < 0 ? amount : amount + 1);
        }
        for (int beat = 0; beat < 16; beat++) {
            for (int other = 0; other < 16; other++) {
                isAlike(x, beat == other ? 1 : 0, beat, beat + 1, other, 0);
            }
        }
    }

    // In EACH column.
    private static void alikeInEachColumn() {
        for (int column = 0; column < 7; column++) {
            LimbScore x = Due.laid(16, column + "r2;" + column + "e2;" + column + "r1;");
            isAlike(x, 3, 0, 4, 4, 0);
            isAlike(x, 2, 0, 2, 0, 0);
            isAlike(x, 0, 0, 2, 2, 0);
        }
        LimbScore x = Due.laid(16, "0r4;1r3;2r2;3r1;0r3;1e1;1r3;2e2;2r3;");
        isAlike(x, 1, 0, 4, 4, 0);
    }

    // mirrored: 1 if the other phrase is compared as if it were mirrored. (columns)
    private static void alikeMirroredColumns() {
        int[] mirror = {1, 0, 3, 2, 5, 4, 6};
        for (int column = 0; column < 7; column++) {
            for (int other = 0; other < 7; other++) {
                LimbScore x = Due.laid(16, column + "r1;" + other + "e2;" + other + "r1;");
                int at = column == other ? 3 : 2;
                Due.is("the other sign", x.signAt(other, at), 1);
                isAlike(x, other == mirror[column] ? 1 : 0, 0, 1, at, 1);
                isAlike(x, other == column ? 1 : 0, 0, 1, at, 0);
            }
        }
    }

    // (directions: left and right.)
    private static void alikeMirroredDirections() {
        int[] mirror = {0, 1, 8, 7, 6, 5, 4, 3, 2};
        for (int direction = 0; direction <= 8; direction++) {
            LimbScore x = new LimbScore();
            x.addMove(0, 0, 1, direction, 2);
            for (int other = 0; other <= 8; other++) {
                x.addMove(1, 1 + other, 1, other, 2);
                isAlike(x, other == mirror[direction] ? 1 : 0, 0, 1, 1 + other, 1);
            }
            x.addMove(1, 10, 1, mirror[direction], 1);
            isAlike(x, 0, 0, 1, 10, 1);
        }
    }

    // (the signs of amounts.)
    private static void alikeMirroredAmounts() {
        LimbScore x = new LimbScore();
        for (int amount = -8; amount < 8; amount++) {
            x.addTurn(amount + 8, 1, amount < 0 ? amount : amount + 1);
        }
        for (int beat = 0; beat < 16; beat++) {
            for (int other = 0; other < 16; other++) {
                isAlike(x, beat + other == 15 ? 1 : 0, beat, beat + 1, other, 1);
            }
        }
    }

    // (where the signs begin and end does not count, only what covers the beats.)
    private static void alikeBegins() {
        LimbScore x = Due.laid(16, "4m1n4;4m1n1;4m1n1;4m1n2;5k;5e3;5k;5k;");
        isAlike(x, 4, 0, 4, 4, 0);
        isAlike(x, 3, 1, 4, 0, 0);
    }

    // (the phrases may overlap.)
    private static void alikeOverlapping() {
        LimbScore x = Due.laid(16, "4m1n2;4e1;4m1n3;");
        // covered: 0 1, 3 4 5
        isAlike(x, 12, 0, 15, 1, 0);
        isAlike(x, 12, 1, 16, 0, 0);
        isAlike(x, 15, 0, 15, 0, 0);
    }

    // (a phrase of all beats.)
    private static void alikeWholeScore() {
        LimbScore x = Due.laid(48, "0k;1k;4e47;4m2l1;5e46;5m8l2;");
        isAlike(x, 48, 0, 48, 0, 0);
        isAlike(x, 47, 0, 48, 0, 1);
        isAlike(x, 1, 47, 48, 47, 1);
        isAlike(x, 0, 46, 47, 46, 1);
        isAlike(x, 0, 47, 48, 0, 0);
        x.reset(4);
        isAlike(x, 4, 0, 4, 0, 0);
    }
}
