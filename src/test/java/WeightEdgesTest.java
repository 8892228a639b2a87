/**
 * The edges that the document names in "Weight" and in the promises 15 to 21. Above each test
 * stands the sentence that it holds the class to.
 */
public final class WeightEdgesTest {
    private static final int MAX = Integer.MAX_VALUE;
    private static final int MIN = Integer.MIN_VALUE;

    public static void main(String[] args) {
        footWithAMove();
        footWithAHold();
        footWithARelease();
        footWithNothing();
        beatsInTheAir();
        longestSequences();
        flightsAtTheEdges();
        legWithAMove();
        legWithoutAMove();
        footOfTheSameSide();
        bothLegs();
        faultyForALeg();
        faultyForAFlight();
        flightsOfTheEndAndTheBegin();
        longFlightWhole();
        initialLeap();
        leapsFromZeroToEight();
        firstFaultFromABeatOn();
        noFault();
        countedBeats();
        countedNone();
        countedRange();
        leastLeapOfFlights();
        leastLeapIsEnough();
        leastLeapToldTwice();
        coveredByKinds();
        coveredByAll();
        coveredRange();
        questionsAfterChanges();
        questionsAfterALongerScore();
        Due.end();
    }

    private static void bearsAre(LimbScore x, int... due) {
        for (int beat = 0; beat < due.length; beat++) {
            Due.is("bears(" + beat + ")", x.bears(beat), due[beat]);
        }
        Due.is("no more beats", x.bears(due.length), Due.INVALID);
    }

    // A foot bears at a beat if a move .. in its column covers the beat.
    private static void footWithAMove() {
        LimbScore x = Due.laid(6, "0e1;0m0l2;1e2;1m1h3;");
        bearsAre(x, 0, 1, 3, 2, 2, 0);
    }

    // .. or a hold in its column covers the beat.
    private static void footWithAHold() {
        LimbScore x = Due.laid(6, "0e1;0k;0e2;0r1;1e3;1k;");
        bearsAre(x, 0, 1, 1, 3, 2, 2);
        x.removeSign(x.signAt(0, 4));
        bearsAre(x, 0, 1, 1, 3, 3, 3);
    }

    // (a release is neither.)
    private static void footWithARelease() {
        LimbScore x = Due.laid(4, "0r4;1r1;1m1n1;1r1;1k;");
        bearsAre(x, 0, 2, 0, 2);
    }

    // (nor is a sign of another column.)
    private static void footWithNothing() {
        LimbScore x = Due.laid(4, "2m1n4;3k;4m1n4;5k;6k;");
        bearsAre(x, 0, 0, 0, 0);
        Due.is("all in the air", x.beats(1), 4);
    }

    // A beat is in the air if no foot bears.
    private static void beatsInTheAir() {
        LimbScore x = Due.laid(4, "0m1n1;1e1;1m1n1;0e2;0m1n1;1e1;1m1n1;");
        bearsAre(x, 1, 2, 0, 3);
        Due.is("in the air", x.beats(1), 1);
        Due.is("a flight", x.beats(6), 1);
        x.addHold(0, 1);
        Due.is("none in the air", x.beats(1), 0);
        Due.is("no flight", x.beats(6), 0);
    }

    // A flight is a longest sequence of successive beats in the air.
    private static void longestSequences() {
        LimbScore x = Due.laid(12, "0e2;0m1n1;0e4;0m1n1;1e8;1m1n2;");
        // in the air: 0 1, 3 to 6, 10 11
        Due.is("beats in the air", x.beats(1), 8);
        Due.is("the longest flight", x.beats(5), 4);
        Due.is("flights", x.beats(6), 3);
        x.setLeap(3);
        for (int beat = 0; beat < 12; beat++) {
            Due.is("isFaulty(" + beat + ")", x.isFaulty(beat), beat >= 3 && beat <= 6 ? 1 : 0);
        }
        x.addMove(1, 4, 1, 0, 0);
        Due.is("cut in two", x.beats(6), 4);
        Due.is("the longest one", x.beats(5), 2);
        Due.is("no fault", x.beats(0), 0);
    }

    // (a flight at the first beat, at the last beat, of one beat, of all beats.)
    private static void flightsAtTheEdges() {
        LimbScore x = Due.laid(4, "0e1;0m1n2;");
        Due.is("first and last beat", x.beats(6), 2);
        Due.is("one beat each", x.beats(5), 1);
        x.setLeap(0);
        Due.is("the first one is faulty", x.isFaulty(0), 1);
        Due.is("not the second", x.isFaulty(1), 0);
        Due.is("the last one is faulty", x.isFaulty(3), 1);
        x.removeSign(0);
        Due.is("all beats", x.beats(5), 4);
        Due.is("one flight", x.beats(6), 1);
        x.reset(48);
        Due.is("48 beats", x.beats(5), 48);
        Due.is("one flight", x.beats(6), 1);
        x.addHold(0, 47);
        Due.is("47 beats", x.beats(5), 47);
        x.addMove(0, 0, 1, 1, 1);
        Due.is("46 beats", x.beats(5), 46);
        Due.is("one flight", x.beats(6), 1);
    }

    private static void toldAre(LimbScore x, int... due) {
        for (int beat = 0; beat < due.length; beat++) {
            Due.is("toldTwice(" + beat + ")", x.toldTwice(beat), due[beat]);
        }
    }

    // A leg is told twice at a beat if a move in its column covers the beat ..
    private static void legWithAMove() {
        LimbScore x = Due.laid(6, "0k;1k;2e1;2m0l2;3e2;3m8h3;");
        toldAre(x, 0, 1, 3, 2, 2, 0);
        Due.is("at the first beat", Due.laid(4, "0k;2m1n1;").toldTwice(0), 1);
        Due.is("at the last beat", Due.laid(4, "1k;3e3;3m1n1;").toldTwice(3), 2);
    }

    // (a hold or a release of a leg is no move.)
    private static void legWithoutAMove() {
        LimbScore x = Due.laid(4, "0k;1k;2k;2e1;2r2;3r2;3k;");
        toldAre(x, 0, 0, 0, 0);
        Due.is("no fault", x.beats(0), 0);
    }

    // .. and the foot of the same side bears there.
    private static void footOfTheSameSide() {
        LimbScore x = Due.laid(8, "0m0n2;0r2;0k;1e6;1k;2m1n8;4m1n8;5m1n8;");
        toldAre(x, 1, 1, 0, 0, 1, 1, 1, 1);
        x = Due.laid(8, "1m0n2;1r2;1k;0e6;0k;3m1n8;");
        toldAre(x, 2, 2, 0, 0, 2, 2, 2, 2);
        x = Due.laid(4, "0k;3m1n4;");
        toldAre(x, 0, 0, 0, 0);
        x = Due.laid(4, "1k;2m1n4;");
        toldAre(x, 0, 0, 0, 0);
    }

    // Returns 1 for the left one, plus 2 for the right one.
    private static void bothLegs() {
        LimbScore x = Due.laid(4, "0m0n4;1m0n4;2m1n1;2e1;2m1n1;3e1;3m1n2;");
        toldAre(x, 1, 2, 3, 0);
        bearsAre(x, 3, 3, 3, 3);
    }

    // A beat is faulty if a leg is told twice there ..
    private static void faultyForALeg() {
        LimbScore x = Due.laid(6, "0k;2e1;2m1n2;1e2;1k;3e4;3m1n1;");
        for (int leap = 0; leap <= 8; leap += 8) {
            x.setLeap(leap);
            int[] due = {0, 1, 1, 0, 1, 0};
            for (int beat = 0; beat < 6; beat++) {
                Due.is("isFaulty(" + beat + ")", x.isFaulty(beat), due[beat]);
            }
            Due.is("faulty beats", x.beats(0), 3);
        }
    }

    // .. or if it belongs to a flight with more beats than the leap allows.
    private static void faultyForAFlight() {
        for (int length = 1; length <= 9; length++) {
            LimbScore x = new LimbScore();
            x.addHold(1, 0);
            x.addRelease(1, 3, length);
            x.addHold(1, 3 + length);
            if (length <= 8) {
                x.setLeap(length);
                Due.is("as many as the leap", x.beats(0), 0);
                Due.is("no fault", x.nextFault(0), Due.NOT_FOUND);
            }
            x.setLeap(length - 1);
            Due.is("one more than the leap", x.beats(0), length);
            Due.is("the beat before it", x.isFaulty(2), 0);
            Due.is("its first beat", x.isFaulty(3), 1);
            Due.is("its last beat", x.isFaulty(2 + length), 1);
            Due.is("the beat behind it", x.isFaulty(3 + length), 0);
        }
    }

    // (so at the end and at the begin of the score.)
    private static void flightsOfTheEndAndTheBegin() {
        for (int length = 1; length <= 9; length++) {
            LimbScore x = new LimbScore();
            x.addMove(0, 0, 16 - length, 1, 1);
            x.setLeap(length - 1);
            for (int beat = 0; beat < 16; beat++) {
                Due.is("at the end", x.isFaulty(beat), beat >= 16 - length ? 1 : 0);
            }
            x.removeSign(0);
            x.addMove(0, length, 16 - length, 1, 1);
            for (int beat = 0; beat < 16; beat++) {
                Due.is("at the begin", x.isFaulty(beat), beat < length ? 1 : 0);
            }
        }
    }

    // (all beats of the flight, not only those beyond the leap.)
    private static void longFlightWhole() {
        LimbScore x = Due.laid(48, "0e40;0k;");
        x.setLeap(8);
        for (int beat = 0; beat < 48; beat++) {
            Due.is("isFaulty(" + beat + ")", x.isFaulty(beat), beat < 40 ? 1 : 0);
        }
        Due.is("faulty beats", x.beats(0), 40);
    }

    // the leap: initially 1.
    private static void initialLeap() {
        LimbScore x = new LimbScore();
        x.addHold(0, 1);
        Due.is("one beat in the air", x.beats(0), 0);
        x.addRelease(0, 4, 2);
        x.addHold(0, 6);
        Due.is("two beats in the air", x.beats(0), 2);
        Due.is("the first of them", x.nextFault(0), 4);
    }

    // a setting from 0 to 8.
    private static void leapsFromZeroToEight() {
        LimbScore x = Due.laid(48, "0k;0r1;0k;0r2;0k;0r3;0k;0r4;0k;0r5;0k;0r6;0k;0r7;0k;0r8;");
        x.addHold(0, 44);
        int faulty = 36;
        for (int leap = 0; leap <= 8; leap++) {
            x.setLeap(leap);
            faulty -= leap;
            Due.is("faulty beats", x.beats(0), faulty);
        }
        Due.is("none with 8", faulty, 0);
    }

    // nextFault: Returns the first faulty beat from a beat on.
    private static void firstFaultFromABeatOn() {
        LimbScore x = Due.laid(8, "0m1n2;0e2;0m1n1;0e2;0m1n1;");
        // in the air: 2 3, 5 6
        int[] due = {2, 2, 2, 3, 5, 5, 6, Due.NOT_FOUND};
        for (int beat = 0; beat < 8; beat++) {
            Due.is("nextFault(" + beat + ")", x.nextFault(beat), due[beat]);
        }
        x.removeSign(2);
        Due.is("the last beat", x.nextFault(7), 7);
    }

    // NOT_FOUND if there is none.
    private static void noFault() {
        LimbScore x = Due.laid(4, "0k;");
        for (int beat = 0; beat < 4; beat++) {
            Due.is("nextFault(" + beat + ")", x.nextFault(beat), Due.NOT_FOUND);
            Due.is("isFaulty(" + beat + ")", x.isFaulty(beat), 0);
        }
        Due.is("faulty beats", x.beats(0), 0);
    }

    // beats, what: 0: faulty ones; 1: those in the air; 2: those in which the left foot alone
    // bears; 3: the right foot alone; 4: both feet; 5: the beats of the longest flight; 6: flights
    private static void countedBeats() {
        LimbScore x = Due.laid(20, "0e1;0m1n3;0e2;0m1n7;1e2;1m1n1;1e4;1m1n5;1e3;1m1n1;2e9;2m1n2;");
        // left: 1 2 3, 6 to 12; right: 2, 7 to 11, 15; air: 0, 4 5, 13 14, 16 to 19; told: 9 10
        int[] due = {10, 9, 4, 1, 6, 4, 4};
        for (int what = 0; what < 7; what++) {
            Due.is("beats(" + what + ")", x.beats(what), due[what]);
        }
        x.setLeap(4);
        Due.is("told twice alone", x.beats(0), 2);
    }

    // (none of them: all feet bear at all beats; or an empty score.)
    private static void countedNone() {
        LimbScore x = Due.laid(48, "0k;1k;");
        int[] due = {0, 0, 0, 0, 48, 0, 0};
        for (int what = 0; what < 7; what++) {
            Due.is("both feet: beats(" + what + ")", x.beats(what), due[what]);
        }
        x.removeSign(1);
        Due.is("the left foot alone", x.beats(2), 48);
        x.reset(4);
        x.addHold(1, 0);
        Due.is("the right foot alone", x.beats(3), 4);
        x.reset(48);
        int[] empty = {48, 48, 0, 0, 0, 48, 1};
        for (int what = 0; what < 7; what++) {
            Due.is("empty: beats(" + what + ")", x.beats(what), empty[what]);
        }
    }

    // beats: INVALID_ARGUMENT if what is out of range.
    private static void countedRange() {
        LimbScore x = new LimbScore();
        for (int wrong : new int[] {-1, 7, MIN, MAX}) {
            Due.is("beats(" + wrong + ")", x.beats(wrong), Due.INVALID);
        }
    }

    // leastLeap: Returns the leap, possibly more than 8.
    private static void leastLeapOfFlights() {
        Due.is("no flight", Due.laid(4, "1k;").leastLeap(), 0);
        Due.is("one beat", Due.laid(4, "1e1;1k;").leastLeap(), 1);
        Due.is("eight beats", Due.laid(9, "1m1n1;").leastLeap(), 8);
        Due.is("nine beats", Due.laid(10, "1m1n1;").leastLeap(), 9);
        Due.is("all beats", Due.laid(48, "").leastLeap(), 48);
        Due.is("the longer of two", Due.laid(9, "1e2;1m1n2;").leastLeap(), 5);
        Due.is("the first of two", Due.laid(9, "1e6;1m1n2;").leastLeap(), 6);
    }

    // .. with which no beat would be faulty for its flight.
    private static void leastLeapIsEnough() {
        for (int length = 1; length <= 8; length++) {
            LimbScore x = new LimbScore();
            x.addHold(0, length);
            int leap = x.leastLeap();
            Due.is("the least leap", leap, length);
            x.setLeap(leap);
            Due.is("it is enough", x.beats(0), 0);
            x.setLeap(leap - 1);
            Due.is("one less is not", x.beats(0), length);
            Due.is("it does not depend on the leap", x.leastLeap(), length);
        }
    }

    // NOT_FOUND if a leg is told twice at some beat.
    private static void leastLeapToldTwice() {
        Due.is("the first beat", Due.laid(4, "0k;2m1n1;").leastLeap(), Due.NOT_FOUND);
        Due.is("the last beat", Due.laid(4, "1k;3e3;3m1n1;").leastLeap(), Due.NOT_FOUND);
        Due.is("a flight, too", Due.laid(9, "3e8;3m1n1;1e8;1k;").leastLeap(), Due.NOT_FOUND);
        Due.is("the other side", Due.laid(4, "0k;3m1n4;").leastLeap(), 0);
        LimbScore x = Due.laid(4, "0k;2m1n1;");
        x.removeSign(1);
        Due.is("no longer", x.leastLeap(), 0);
    }

    // covered, kind: 0 to 3: by signs of this kind.
    private static void coveredByKinds() {
        LimbScore x = Due.laid(48, "6e1;6t+1/2;6k;6e4;6r7;6e1;6t-8/3;6k;");
        int[] due = {0, 34, 5, 7};
        for (int kind = 0; kind < 4; kind++) {
            Due.is("covered(6, " + kind + ")", x.covered(6, kind), due[kind]);
        }
        x = Due.laid(48, "0m1n48;");
        Due.is("all by a move", x.covered(0, 0), 48);
        Due.is("none by a hold", x.covered(0, 1), 0);
        Due.is("none by a turn", x.covered(0, 2), 0);
        Due.is("none by a release", x.covered(0, 3), 0);
    }

    // covered, kind: -1 by signs of all kinds.
    private static void coveredByAll() {
        LimbScore x = Due.laid(48, "6e1;6t+1/2;6k;6e4;6r7;6e1;6t-8/3;6k;");
        Due.is("all kinds", x.covered(6, -1), 46);
        Due.is("an empty column", x.covered(5, -1), 0);
        x.addHold(5, 0);
        Due.is("a whole column", x.covered(5, -1), 48);
    }

    // covered: INVALID_ARGUMENT. (kind: -1 to 3)
    private static void coveredRange() {
        LimbScore x = Due.laid(4, "0k;");
        for (int wrong : new int[] {-2, 4, MIN, MAX}) {
            Due.is("covered(0, " + wrong + ")", x.covered(0, wrong), Due.INVALID);
        }
        Due.is("covered(-1, -1)", x.covered(-1, -1), Due.INVALID);
        Due.is("covered(7, 3)", x.covered(7, 3), Due.INVALID);
    }

    // (what is removed bears no more, and is told no more.)
    private static void questionsAfterChanges() {
        LimbScore x = Due.laid(4, "0k;1k;2m1n4;3m1n4;");
        toldAre(x, 3, 3, 3, 3);
        x.removeSign(3);
        toldAre(x, 1, 1, 1, 1);
        x.removeSign(2);
        toldAre(x, 0, 0, 0, 0);
        Due.is("no fault", x.beats(0), 0);
        x.removeSign(0);
        bearsAre(x, 2, 2, 2, 2);
        x.undo();
        x.undo();
        toldAre(x, 1, 1, 1, 1);
        bearsAre(x, 3, 3, 3, 3);
        x.addRelease(0, 1, 2);
        bearsAre(x, 3, 2, 2, 2);
        toldAre(x, 1, 0, 0, 0);
    }

    // (what a longer score had behind the end of this one does not count.)
    private static void questionsAfterALongerScore() {
        LimbScore x = Due.laid(48, "0e47;0m1n1;2e46;2m1n2;");
        Due.is("told twice", x.leastLeap(), Due.NOT_FOUND);
        Due.is("flights", x.beats(6), 1);
        x.reset(5);
        x.addHold(1, 0);
        int[] due = {0, 0, 0, 5, 0, 0, 0};
        for (int what = 0; what < 7; what++) {
            Due.is("beats(" + what + ")", x.beats(what), due[what]);
        }
        Due.is("leastLeap", x.leastLeap(), 0);
        Due.is("nextFault", x.nextFault(4), Due.NOT_FOUND);
        Due.is("covered", x.covered(1, 1), 5);
        x.undo();
        x.undo();
        Due.is("told twice again", x.toldTwice(47), 1);
        Due.is("the right foot never", x.beats(3), 0);
    }
}
