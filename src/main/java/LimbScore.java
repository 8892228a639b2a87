import java.util.Arrays;

/** A dance score in columns for limbs. ../shared/DOC.md says what each call promises. */
public final class LimbScore {
    public static final int INVALID_ARGUMENT = -1001;
    public static final int NOT_POSSIBLE = -1002;
    public static final int LIMIT_REACHED = -1003;
    public static final int NOT_FOUND = -1004;

    private static final int LEAST_BEATS = 4;
    private static final int MOST_BEATS = 48;
    private static final int FIRST_BEATS = 16;
    private static final int MOST_SIGNS = 60;
    private static final int MOST_STATES = 6;
    private static final int MOST_CHARACTERS = 120;
    private static final int MOST_LEAP = 8;
    private static final int FIRST_LEAP = 1;

    private static final int COLUMNS = 7;
    private static final int LEFT_LEG = 2;
    private static final int BODY = 6;

    private static final int MOVE = 0;
    private static final int HOLD = 1;
    private static final int TURN = 2;
    private static final int RELEASE = 3;

    private static final int MOST_DIRECTION = 8;
    private static final int MOST_LEVEL = 2;
    private static final int MOST_AMOUNT = 8;
    private static final int FACINGS = 8;

    /** Answer of the private functions where there is no sign, beat or position. */
    private static final int NONE = -1;

    private final Score score = new Score();
    private final Score phrase = new Score();
    private final Score trial = new Score();
    private final History history = new History();
    private final Weight weight = new Weight();
    private final Walk walk = new Walk();
    private final Comparison comparison = new Comparison();
    private final Script script = new Script();
    private final int[] coverRow = new int[MOST_BEATS];

    public LimbScore() {
    }

    public int reset(int beats) {
        if (!isWithin(beats, LEAST_BEATS, MOST_BEATS)) {
            return INVALID_ARGUMENT;
        }
        int previous = score.length;
        history.keep(score);
        score.empty(beats);
        return previous;
    }

    public int addMove(int column, int begin, int length, int direction, int level) {
        if (!isWithin(column, 0, BODY - 1) || !isSpan(begin, length)
                || !isWithin(direction, 0, MOST_DIRECTION) || !isWithin(level, 0, MOST_LEVEL)) {
            return INVALID_ARGUMENT;
        }
        return addSign(Sign.move(column, begin, length, direction, level));
    }

    public int addHold(int column, int begin) {
        if (!isColumn(column) || !isBeat(begin)) {
            return INVALID_ARGUMENT;
        }
        return addSign(Sign.hold(column, begin));
    }

    public int addTurn(int begin, int length, int amount) {
        if (!isSpan(begin, length) || !isWithin(amount, -MOST_AMOUNT, MOST_AMOUNT) || amount == 0) {
            return INVALID_ARGUMENT;
        }
        return addSign(Sign.turn(BODY, begin, length, amount));
    }

    public int addRelease(int column, int begin, int length) {
        if (!isColumn(column) || !isSpan(begin, length)) {
            return INVALID_ARGUMENT;
        }
        return addSign(Sign.release(column, begin, length));
    }

    public int removeSign(int sign) {
        if (!isWithin(sign, 0, score.size - 1)) {
            return INVALID_ARGUMENT;
        }
        history.keep(score);
        score.takeOut(sign);
        return score.size;
    }

    public int copyPhrase(int first, int last, int to, int mirrored, int reversed) {
        if (!isPhrase(first, last) || !isBeat(to) || !isFlag(mirrored) || !isFlag(reversed)) {
            return INVALID_ARGUMENT;
        }
        phrase.emptyAs(score);
        for (int i = 0; i < score.size; i++) {
            int sign = score.at(i);
            if (isInPhrase(sign, first, last)) {
                int begin = reversed == 1 ? to + last - Sign.shortEndOf(sign)
                        : to + Sign.beginOf(sign) - first;
                phrase.put(copyOf(Sign.movedTo(sign, begin), mirrored, reversed));
            }
        }
        if (!canTryPhrase()) {
            return NOT_POSSIBLE;
        }
        if (trial.size > MOST_SIGNS) {
            return LIMIT_REACHED;
        }
        history.keep(score);
        score.become(trial);
        return phrase.size;
    }

    public int setLeap(int leap) {
        if (!isWithin(leap, 0, MOST_LEAP)) {
            return INVALID_ARGUMENT;
        }
        int previous = score.leap;
        history.keep(score);
        score.leap = leap;
        return previous;
    }

    public int lay() {
        if (script.readFor(score, trial) != NONE) {
            return NOT_POSSIBLE;
        }
        history.keep(score);
        score.become(trial);
        return score.size;
    }

    public int undo() {
        if (history.size == 0) {
            return NOT_POSSIBLE;
        }
        history.restore(score);
        return history.size;
    }

    public int count(int what) {
        switch (what) {
            case 0:
                return score.length;
            case 1:
                return score.size;
            case 2:
                return score.leap;
            case 3:
                return history.size;
            case 4:
                return script.size;
            default:
                return INVALID_ARGUMENT;
        }
    }

    public int sign(int sign, int what) {
        if (!isWithin(sign, 0, score.size - 1)) {
            return INVALID_ARGUMENT;
        }
        int found = score.at(sign);
        int kind = Sign.kindOf(found);
        switch (what) {
            case 0:
                return Sign.columnOf(found);
            case 1:
                return Sign.beginOf(found);
            case 2:
                return score.endOf(sign);
            case 3:
                return kind;
            case 4:
                return kind == MOVE ? Sign.directionOf(found) : NOT_FOUND;
            case 5:
                return kind == MOVE ? Sign.levelOf(found) : NOT_FOUND;
            case 6:
                return kind == TURN ? Sign.amountOf(found) : NOT_FOUND;
            default:
                return INVALID_ARGUMENT;
        }
    }

    public int signAt(int column, int beat) {
        if (!isColumn(column) || !isBeat(beat)) {
            return INVALID_ARGUMENT;
        }
        int number = score.numberCovering(column, beat);
        return number == NONE ? NOT_FOUND : number;
    }

    public int bears(int beat) {
        if (!isBeat(beat)) {
            return INVALID_ARGUMENT;
        }
        weight.weigh(score);
        return weight.feet[beat];
    }

    public int toldTwice(int beat) {
        if (!isBeat(beat)) {
            return INVALID_ARGUMENT;
        }
        weight.weigh(score);
        return weight.legs[beat];
    }

    public int isFaulty(int beat) {
        if (!isBeat(beat)) {
            return INVALID_ARGUMENT;
        }
        weight.weigh(score);
        return weight.isWrong(beat) ? 1 : 0;
    }

    public int nextFault(int beat) {
        if (!isBeat(beat)) {
            return INVALID_ARGUMENT;
        }
        weight.weigh(score);
        for (int later = beat; later < score.length; later++) {
            if (weight.isWrong(later)) {
                return later;
            }
        }
        return NOT_FOUND;
    }

    public int beats(int what) {
        if (!isWithin(what, 0, 6)) {
            return INVALID_ARGUMENT;
        }
        weight.weigh(score);
        switch (what) {
            case 0:
                return weight.wrongBeats();
            case 5:
                return weight.longestFlight();
            case 6:
                return weight.flightCount();
            default:
                // 1 to 4 ask for the feet 0 to 3: none, left, right, both
                return weight.beatsOn(what - 1);
        }
    }

    public int leastLeap() {
        weight.weigh(score);
        return weight.isAnyLegTold() ? NOT_FOUND : weight.longestFlight();
    }

    public int covered(int column, int kind) {
        if (!isColumn(column) || !isWithin(kind, NONE, RELEASE)) {
            return INVALID_ARGUMENT;
        }
        score.fillRow(column, coverRow);
        int total = 0;
        for (int beat = 0; beat < score.length; beat++) {
            int sign = coverRow[beat];
            if (sign != NONE && (kind == NONE || Sign.kindOf(sign) == kind)) {
                total++;
            }
        }
        return total;
    }

    public int floor(int beat, int what) {
        if (!isWithin(beat, 0, score.length) || !isWithin(what, 0, 2)) {
            return INVALID_ARGUMENT;
        }
        walk.follow(score);
        if (what == 2) {
            return walk.facing[beat];
        }
        return what == 0 ? walk.x[beat] : walk.y[beat];
    }

    public int home() {
        walk.follow(score);
        boolean wasElsewhere = false;
        for (int beat = 1; beat <= score.length; beat++) {
            if (walk.distanceAt(beat) != 0) {
                wasElsewhere = true;
            } else if (wasElsewhere) {
                return beat;
            }
        }
        return NOT_FOUND;
    }

    public int farthest() {
        walk.follow(score);
        int greatest = 0;
        for (int beat = 0; beat <= score.length; beat++) {
            greatest = Math.max(greatest, walk.distanceAt(beat));
        }
        return greatest;
    }

    public int alike(int first, int last, int to, int mirrored) {
        if (!isPhrase(first, last) || !isWithin(to, 0, score.length - (last - first))
                || !isFlag(mirrored)) {
            return INVALID_ARGUMENT;
        }
        comparison.begin();
        for (int column = 0; column < COLUMNS; column++) {
            comparison.compare(score, column, first, to, mirrored == 1);
        }
        return comparison.alikeBeats(last - first);
    }

    public int type(int character) {
        if (!isWithin(character, 32, 126)) {
            return INVALID_ARGUMENT;
        }
        if (script.size >= MOST_CHARACTERS) {
            return LIMIT_REACHED;
        }
        script.append(character);
        return script.size;
    }

    public int clearText() {
        int previous = script.size;
        script.size = 0;
        return previous;
    }

    public int fault() {
        int position = script.readFor(score, trial);
        return position == NONE ? NOT_FOUND : position;
    }

    private static boolean isWithin(int value, int least, int most) {
        return value >= least && value <= most;
    }

    private static boolean isFlag(int value) {
        return isWithin(value, 0, 1);
    }

    private static boolean isColumn(int column) {
        return isWithin(column, 0, COLUMNS - 1);
    }

    private boolean isBeat(int beat) {
        return isWithin(beat, 0, score.length - 1);
    }

    private boolean isSpan(int begin, int length) {
        return isBeat(begin) && isWithin(length, 1, score.length - begin);
    }

    private boolean isPhrase(int first, int last) {
        return isBeat(first) && isWithin(last, first + 1, score.length);
    }

    private int addSign(int sign) {
        if (!score.hasRoomFor(sign)) {
            return NOT_POSSIBLE;
        }
        if (score.size >= MOST_SIGNS) {
            return LIMIT_REACHED;
        }
        history.keep(score);
        return score.put(sign);
    }

    private static boolean isInPhrase(int sign, int first, int last) {
        return Sign.beginOf(sign) >= first && Sign.shortEndOf(sign) <= last;
    }

    private static int copyOf(int sign, int mirrored, int reversed) {
        int copy = mirrored == 1 ? Sign.mirrored(sign) : sign;
        return reversed == 1 ? Sign.turnedBack(copy) : copy;
    }

    /** Adds the phrase to the trial, beyond the limit too: what is not possible comes before it. */
    private boolean canTryPhrase() {
        trial.become(score);
        for (int i = 0; i < phrase.size; i++) {
            int copy = phrase.at(i);
            if (!trial.hasRoomFor(copy)) {
                return false;
            }
            trial.put(copy);
        }
        return true;
    }

    /**
     * A sign is one number: from the top its begin, column, span, kind, direction, level and
     * amount. So signs in the order of these numbers are in the order of the score.
     * The span is what no other sign may cover: the length, and of a hold its first beat alone.
     */
    private static final class Sign {
        private static final int LEVEL_AT = 5;
        private static final int DIRECTION_AT = 7;
        private static final int KIND_AT = 11;
        private static final int SPAN_AT = 13;
        private static final int COLUMN_AT = 20;
        private static final int BEGIN_AT = 23;
        private static final int LOOK_BITS = (1 << SPAN_AT) - 1;

        private Sign() {
        }

        static int move(int column, int begin, int length, int direction, int level) {
            return packed(column, begin, length, MOVE, direction, level, 0);
        }

        static int hold(int column, int begin) {
            return packed(column, begin, 1, HOLD, 0, 0, 0);
        }

        static int turn(int column, int begin, int length, int amount) {
            return packed(column, begin, length, TURN, 0, 0, amount);
        }

        static int release(int column, int begin, int length) {
            return packed(column, begin, length, RELEASE, 0, 0, 0);
        }

        private static int packed(int column, int begin, int span, int kind, int direction,
                int level, int amount) {
            return (begin << BEGIN_AT) | (column << COLUMN_AT) | (span << SPAN_AT)
                    | (kind << KIND_AT) | (direction << DIRECTION_AT) | (level << LEVEL_AT)
                    | (amount + MOST_AMOUNT);
        }

        static int beginOf(int sign) {
            return (sign >> BEGIN_AT) & 127;
        }

        static int columnOf(int sign) {
            return (sign >> COLUMN_AT) & 7;
        }

        static int spanOf(int sign) {
            return (sign >> SPAN_AT) & 127;
        }

        static int kindOf(int sign) {
            return (sign >> KIND_AT) & 3;
        }

        static int directionOf(int sign) {
            return (sign >> DIRECTION_AT) & 15;
        }

        static int levelOf(int sign) {
            return (sign >> LEVEL_AT) & 3;
        }

        static int amountOf(int sign) {
            return (sign & 31) - MOST_AMOUNT;
        }

        /** The end, but of a hold the one behind its first beat. */
        static int shortEndOf(int sign) {
            return beginOf(sign) + spanOf(sign);
        }

        /** What makes signs alike: kind, direction, level and amount. */
        static int lookOf(int sign) {
            return sign == NONE ? NONE : sign & LOOK_BITS;
        }

        static int movedTo(int sign, int begin) {
            return packed(columnOf(sign), begin, spanOf(sign), kindOf(sign), directionOf(sign),
                    levelOf(sign), amountOf(sign));
        }

        static int turnedBack(int sign) {
            return packed(columnOf(sign), beginOf(sign), spanOf(sign), kindOf(sign),
                    directionOf(sign), levelOf(sign), -amountOf(sign));
        }

        static int mirrored(int sign) {
            if (sign == NONE) {
                return NONE;
            }
            return packed(mirroredColumn(columnOf(sign)), beginOf(sign), spanOf(sign),
                    kindOf(sign), mirroredDirection(directionOf(sign)), levelOf(sign),
                    -amountOf(sign));
        }

        static int mirroredColumn(int column) {
            if (column == BODY) {
                return BODY;
            }
            return column % 2 == 0 ? column + 1 : column - 1;
        }

        private static int mirroredDirection(int direction) {
            return direction < 2 ? direction : 10 - direction;
        }
    }

    /** A length, a leap and signs in their order, with room for a phrase beyond the limit. */
    private static final class Score {
        private int length = FIRST_BEATS;
        private int leap = FIRST_LEAP;
        private int size = 0;
        private final int[] signs = new int[2 * MOST_SIGNS];

        private Score() {
        }

        void empty(int newLength) {
            length = newLength;
            size = 0;
        }

        void emptyAs(Score other) {
            length = other.length;
            leap = other.leap;
            size = 0;
        }

        void become(Score other) {
            length = other.length;
            leap = other.leap;
            size = other.size;
            System.arraycopy(other.signs, 0, signs, 0, other.size);
        }

        int at(int number) {
            return number >= 0 && number < size ? signs[number] : NONE;
        }

        boolean hasRoomFor(int sign) {
            int begin = Sign.beginOf(sign);
            int end = Sign.shortEndOf(sign);
            if (end > length) {
                return false;
            }
            for (int i = 0; i < size; i++) {
                int other = signs[i];
                if (Sign.columnOf(other) == Sign.columnOf(sign)
                        && Sign.beginOf(other) < end && begin < Sign.shortEndOf(other)) {
                    return false;
                }
            }
            return true;
        }

        /** Puts a sign in its order; answers its number. */
        int put(int sign) {
            if (size >= signs.length) {
                return NONE;
            }
            int number = size;
            while (number > 0 && signs[number - 1] > sign) {
                signs[number] = signs[number - 1];
                number--;
            }
            signs[number] = sign;
            size++;
            return number;
        }

        void takeOut(int number) {
            if (number < 0 || number >= size) {
                return;
            }
            for (int i = number; i < size - 1; i++) {
                signs[i] = signs[i + 1];
            }
            size--;
        }

        int endOf(int number) {
            int sign = at(number);
            if (Sign.kindOf(sign) != HOLD) {
                return Sign.shortEndOf(sign);
            }
            for (int i = number + 1; i < size; i++) {
                if (Sign.columnOf(signs[i]) == Sign.columnOf(sign)) {
                    return Sign.beginOf(signs[i]);
                }
            }
            return length;
        }

        int numberCovering(int column, int beat) {
            int latest = NONE;
            for (int i = 0; i < size; i++) {
                if (Sign.columnOf(signs[i]) == column && Sign.beginOf(signs[i]) <= beat) {
                    latest = i;
                }
            }
            return latest != NONE && beat < endOf(latest) ? latest : NONE;
        }

        /** Fills the row with the signs that cover the beats of a column, NONE where none does. */
        void fillRow(int column, int[] row) {
            Arrays.fill(row, NONE);
            for (int i = 0; i < size; i++) {
                if (Sign.columnOf(signs[i]) == column) {
                    int end = Math.min(endOf(i), row.length);
                    for (int beat = Sign.beginOf(signs[i]); beat < end; beat++) {
                        row[beat] = signs[i];
                    }
                }
            }
        }
    }

    /** The states before the latest changes, the oldest first, each in a stretch of one row. */
    private static final class History {
        private static final int LENGTH_AT = 0;
        private static final int LEAP_AT = 1;
        private static final int SIZE_AT = 2;
        private static final int SIGNS_AT = 3;
        private static final int STRETCH = SIGNS_AT + MOST_SIGNS;

        private int size = 0;
        private final int[] states = new int[MOST_STATES * STRETCH];

        private History() {
        }

        void keep(Score score) {
            if (size == MOST_STATES) {
                System.arraycopy(states, STRETCH, states, 0, (MOST_STATES - 1) * STRETCH);
                size--;
            }
            int from = size * STRETCH;
            states[from + LENGTH_AT] = score.length;
            states[from + LEAP_AT] = score.leap;
            states[from + SIZE_AT] = score.size;
            for (int i = 0; i < score.size && i < MOST_SIGNS; i++) {
                states[from + SIGNS_AT + i] = score.signs[i];
            }
            size++;
        }

        void restore(Score score) {
            if (size == 0) {
                return;
            }
            size--;
            int from = size * STRETCH;
            score.length = states[from + LENGTH_AT];
            score.leap = states[from + LEAP_AT];
            score.size = states[from + SIZE_AT];
            for (int i = 0; i < score.size && i < MOST_SIGNS; i++) {
                score.signs[i] = states[from + SIGNS_AT + i];
            }
        }
    }

    /** What bears and what is wrong at each beat of a score. */
    private static final class Weight {
        private int length = 0;
        private int leap = 0;
        private final int[] footRow = new int[MOST_BEATS];
        private final int[] legRow = new int[MOST_BEATS];
        private final int[] feet = new int[MOST_BEATS];
        private final int[] legs = new int[MOST_BEATS];
        private final int[] flights = new int[MOST_BEATS];

        private Weight() {
        }

        void weigh(Score score) {
            length = score.length;
            leap = score.leap;
            Arrays.fill(feet, 0);
            Arrays.fill(legs, 0);
            weighSide(score, 0);
            weighSide(score, 1);
            measureFlights();
        }

        private void weighSide(Score score, int side) {
            score.fillRow(side, footRow);
            score.fillRow(LEFT_LEG + side, legRow);
            int bit = 1 << side;
            for (int beat = 0; beat < length; beat++) {
                if (canBear(footRow[beat])) {
                    feet[beat] |= bit;
                    if (legRow[beat] != NONE && Sign.kindOf(legRow[beat]) == MOVE) {
                        legs[beat] |= bit;
                    }
                }
            }
        }

        private static boolean canBear(int sign) {
            return sign != NONE && (Sign.kindOf(sign) == MOVE || Sign.kindOf(sign) == HOLD);
        }

        /** Gives each beat the length of its flight: counted forward, then carried back. */
        private void measureFlights() {
            int run = 0;
            for (int beat = 0; beat < length; beat++) {
                run = feet[beat] == 0 ? run + 1 : 0;
                flights[beat] = run;
            }
            for (int beat = length - 2; beat >= 0; beat--) {
                if (flights[beat] > 0 && flights[beat + 1] > 0) {
                    flights[beat] = flights[beat + 1];
                }
            }
        }

        boolean isWrong(int beat) {
            return legs[beat] != 0 || flights[beat] > leap;
        }

        int wrongBeats() {
            int total = 0;
            for (int beat = 0; beat < length; beat++) {
                if (isWrong(beat)) {
                    total++;
                }
            }
            return total;
        }

        int beatsOn(int wantedFeet) {
            int total = 0;
            for (int beat = 0; beat < length; beat++) {
                if (feet[beat] == wantedFeet) {
                    total++;
                }
            }
            return total;
        }

        int longestFlight() {
            int longest = 0;
            for (int beat = 0; beat < length; beat++) {
                longest = Math.max(longest, flights[beat]);
            }
            return longest;
        }

        int flightCount() {
            int total = 0;
            int before = 0;
            for (int beat = 0; beat < length; beat++) {
                if (flights[beat] > 0 && before == 0) {
                    total++;
                }
                before = flights[beat];
            }
            return total;
        }

        boolean isAnyLegTold() {
            for (int beat = 0; beat < length; beat++) {
                if (legs[beat] != 0) {
                    return true;
                }
            }
            return false;
        }
    }

    /** Where the dancer is at each beat, from 0 to the end of the score. */
    private static final class Walk {
        private static final int[] UNIT_X = {0, 1, 1, 1, 0, -1, -1, -1};
        private static final int[] UNIT_Y = {1, 1, 0, -1, -1, -1, 0, 1};

        private final int[] x = new int[MOST_BEATS + 1];
        private final int[] y = new int[MOST_BEATS + 1];
        private final int[] facing = new int[MOST_BEATS + 1];
        private final int[] turns = new int[MOST_BEATS + 1];
        private final int[] leftSteps = new int[MOST_BEATS + 1];
        private final int[] rightSteps = new int[MOST_BEATS + 1];

        private Walk() {
        }

        void follow(Score score) {
            Arrays.fill(turns, 0);
            Arrays.fill(leftSteps, NONE);
            Arrays.fill(rightSteps, NONE);
            for (int i = 0; i < score.size; i++) {
                noteEnd(score.at(i));
            }
            for (int beat = 1; beat <= score.length; beat++) {
                facing[beat] = Math.floorMod(facing[beat - 1] + turns[beat], FACINGS);
                x[beat] = x[beat - 1];
                y[beat] = y[beat - 1];
                step(beat, leftSteps[beat], rightSteps[beat]);
                step(beat, rightSteps[beat], leftSteps[beat]);
            }
        }

        private void noteEnd(int sign) {
            int end = Sign.shortEndOf(sign);
            if (end >= turns.length) {
                return;
            }
            if (Sign.kindOf(sign) == TURN) {
                turns[end] = Sign.amountOf(sign);
            } else if (Sign.kindOf(sign) == MOVE) {
                noteStep(sign, end);
            }
        }

        private void noteStep(int move, int end) {
            if (Sign.columnOf(move) == 0) {
                leftSteps[end] = move;
            } else if (Sign.columnOf(move) == 1) {
                rightSteps[end] = move;
            }
        }

        private void step(int beat, int move, int otherMove) {
            if (move == NONE || Sign.directionOf(move) == 0) {
                return;
            }
            int units = otherMove == NONE ? 2 : 1;
            int heading = Math.floorMod(
                    facing[Sign.beginOf(move)] + Sign.directionOf(move) - 1, FACINGS);
            x[beat] += units * UNIT_X[heading];
            y[beat] += units * UNIT_Y[heading];
        }

        int distanceAt(int beat) {
            return Math.max(Math.abs(x[beat]), Math.abs(y[beat]));
        }
    }

    /** Which beats of two phrases differ in some column. */
    private static final class Comparison {
        private final int[] row = new int[MOST_BEATS];
        private final int[] otherRow = new int[MOST_BEATS];
        private final int[] differences = new int[MOST_BEATS];

        private Comparison() {
        }

        void begin() {
            Arrays.fill(differences, 0);
        }

        void compare(Score score, int column, int first, int to, boolean isMirrored) {
            score.fillRow(column, row);
            score.fillRow(isMirrored ? Sign.mirroredColumn(column) : column, otherRow);
            int beats = score.length - Math.max(first, to);
            for (int i = 0; i < beats; i++) {
                int other = isMirrored ? Sign.mirrored(otherRow[to + i]) : otherRow[to + i];
                if (Sign.lookOf(row[first + i]) != Sign.lookOf(other)) {
                    differences[i]++;
                }
            }
        }

        int alikeBeats(int length) {
            int total = 0;
            for (int i = 0; i < length; i++) {
                if (differences[i] == 0) {
                    total++;
                }
            }
            return total;
        }
    }

    /** The text, and its reading as a score. */
    private static final class Script {
        private int size = 0;
        private int position = 0;
        private final int[] characters = new int[MOST_CHARACTERS];
        private final int[] nextBegins = new int[COLUMNS];

        private Script() {
        }

        void append(int character) {
            if (size < MOST_CHARACTERS) {
                characters[size] = character;
                size++;
            }
        }

        /** Reads the text as the signs for a score; answers the position of its fault, or NONE. */
        int readFor(Score score, Score result) {
            result.emptyAs(score);
            Arrays.fill(nextBegins, 0);
            position = 0;
            for (int items = 0; items < MOST_CHARACTERS && position < size; items++) {
                int start = position;
                if (!readItem(result)) {
                    return start;
                }
            }
            return NONE;
        }

        private boolean readItem(Score result) {
            int column = readDigit();
            if (!isColumn(column)) {
                return false;
            }
            int begin = nextBegins[column];
            int letter = readCharacter();
            boolean isGap = letter == 'e';
            int sign = isGap ? NONE : readSign(letter, column, begin);
            int span = isGap ? readLength() : spanOf(sign);
            if (span < 1 || span > result.length - begin || readCharacter() != ';') {
                return false;
            }
            nextBegins[column] = begin + span;
            return isGap || isTaken(result, sign);
        }

        private static int spanOf(int sign) {
            return sign == NONE ? 0 : Sign.spanOf(sign);
        }

        private static boolean isTaken(Score result, int sign) {
            return result.size < MOST_SIGNS && result.put(sign) != NONE;
        }

        /** Reads what follows the letter of a sign; NONE if it is not of the form. */
        private int readSign(int letter, int column, int begin) {
            switch (letter) {
                case 'm':
                    return readMove(column, begin);
                case 'k':
                    return Sign.hold(column, begin);
                case 't':
                    return readTurn(column, begin);
                case 'r':
                    return Sign.release(column, begin, readLength());
                default:
                    return NONE;
            }
        }

        private int readMove(int column, int begin) {
            int direction = readDigit();
            int level = levelNamed(readCharacter());
            int length = readLength();
            if (column == BODY || !isWithin(direction, 0, MOST_DIRECTION) || level == NONE) {
                return NONE;
            }
            return Sign.move(column, begin, length, direction, level);
        }

        private int readTurn(int column, int begin) {
            int direction = readCharacter();
            int amount = readDigit();
            int stroke = readCharacter();
            int length = readLength();
            if (column != BODY || (direction != '+' && direction != '-')
                    || !isWithin(amount, 1, MOST_AMOUNT) || stroke != '/') {
                return NONE;
            }
            return Sign.turn(column, begin, length, direction == '+' ? amount : -amount);
        }

        private static int levelNamed(int letter) {
            switch (letter) {
                case 'l':
                    return 0;
                case 'n':
                    return 1;
                case 'h':
                    return 2;
                default:
                    return NONE;
            }
        }

        /** Reads one or two digits; 0 if there is none. */
        private int readLength() {
            int length = digitAt(position);
            if (length == NONE) {
                return 0;
            }
            position++;
            int second = digitAt(position);
            if (second == NONE) {
                return length;
            }
            position++;
            return length * 10 + second;
        }

        private int readDigit() {
            int digit = digitAt(position);
            position++;
            return digit;
        }

        private int readCharacter() {
            int character = position < size ? characters[position] : NONE;
            position++;
            return character;
        }

        private int digitAt(int place) {
            int character = place < size ? characters[place] : NONE;
            return character >= '0' && character <= '9' ? character - '0' : NONE;
        }
    }
}
