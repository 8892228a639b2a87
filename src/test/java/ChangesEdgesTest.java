/**
 * The edges that the document names in "Changes and errors" and in the promises 9, 11 and 12.
 * Above each test stands the sentence that it holds the class to.
 */
public final class ChangesEdgesTest {
    private static final int MAX = Integer.MAX_VALUE;
    private static final int MIN = Integer.MIN_VALUE;

    public static void main(String[] args) {
        changes();
        changesWithoutADifference();
        callsThatAreNoChange();
        refusedChanges();
        refusedQuestions();
        atMostSixStates();
        theOldestIsDropped();
        droppedManyTimes();
        eachChangeRecordsTheScore();
        eachChangeRecordsTheLeap();
        sixtySignsAreRecorded();
        undoRemovesTheState();
        undoOfNothing();
        undoLeavesTheText();
        leapRange();
        countRange();
        invalidBeforeNotPossible();
        notPossibleBeforeLimit();
        invalidBeforeLimit();
        invalidBeforeNotFound();
        numbersOfTheFace();
        Due.end();
    }

    private static LimbScore smallScore() {
        LimbScore x = new LimbScore();
        x.addMove(0, 0, 2, 3, 1);
        x.addHold(1, 0);
        x.addTurn(0, 4, -3);
        Due.type(x, "6k;0m9");
        return x;
    }

    // The changes are the calls of reset, addMove, addHold, addTurn, addRelease, removeSign,
    // copyPhrase, setLeap and lay that return no error.
    private static void changes() {
        LimbScore x = new LimbScore();
        Due.is("addMove", x.addMove(0, 0, 1, 1, 1), 0);
        Due.is("a state", x.count(3), 1);
        Due.is("addHold", x.addHold(1, 0), 1);
        Due.is("a state", x.count(3), 2);
        Due.is("addTurn", x.addTurn(0, 1, 1), 2);
        Due.is("a state", x.count(3), 3);
        Due.is("addRelease", x.addRelease(2, 0, 1), 2);
        Due.is("a state", x.count(3), 4);
        Due.is("removeSign", x.removeSign(3), 3);
        Due.is("a state", x.count(3), 5);
        Due.is("copyPhrase", x.copyPhrase(0, 1, 1, 0, 0), 3);
        Due.is("a state", x.count(3), 6);
        x.undo();
        x.undo();
        x.undo();
        Due.is("setLeap", x.setLeap(2), 1);
        Due.is("a state", x.count(3), 4);
        Due.is("lay", x.lay(), 0);
        Due.is("a state", x.count(3), 5);
        Due.is("reset", x.reset(17), 16);
        Due.is("a state", x.count(3), 6);
    }

    // (also if nothing becomes different)
    private static void changesWithoutADifference() {
        LimbScore x = new LimbScore();
        x.reset(16);
        Due.is("reset", x.count(3), 1);
        x.setLeap(1);
        Due.is("setLeap", x.count(3), 2);
        x.lay();
        Due.is("lay", x.count(3), 3);
        x.copyPhrase(0, 16, 0, 0, 0);
        Due.is("copyPhrase", x.count(3), 4);
        for (int left = 3; left >= 0; left--) {
            Due.is("undo", x.undo(), left);
            Due.is("the same", x.count(0) + x.count(1) + x.count(2), 17);
        }
    }

    // (no other call is a change.)
    private static void callsThatAreNoChange() {
        LimbScore x = smallScore();
        x.type('1');
        x.clearText();
        x.fault();
        x.sign(0, 0);
        x.signAt(0, 0);
        x.bears(0);
        x.toldTwice(0);
        x.isFaulty(0);
        x.nextFault(0);
        x.beats(0);
        x.leastLeap();
        x.covered(0, 0);
        x.floor(0, 0);
        x.home();
        x.farthest();
        x.alike(0, 1, 1, 1);
        x.count(0);
        Due.is("three changes", x.count(3), 3);
        Due.is("the latest one", x.undo(), 2);
        Due.is("two signs before it", x.count(1), 2);
    }

    private static void isRefused(LimbScore x, String before, String call, int got, int due) {
        Due.is(call, got, due);
        Due.same(call + " changes nothing", Due.stateOf(x), before);
    }

    // A call that returns an error changes nothing.
    private static void refusedChanges() {
        LimbScore x = smallScore();
        String before = Due.stateOf(x);
        isRefused(x, before, "reset", x.reset(3), Due.INVALID);
        isRefused(x, before, "addMove", x.addMove(6, 0, 1, 1, 1), Due.INVALID);
        isRefused(x, before, "addMove", x.addMove(0, 1, 1, 1, 1), Due.NOT_POSSIBLE);
        isRefused(x, before, "addHold", x.addHold(0, 16), Due.INVALID);
        isRefused(x, before, "addHold", x.addHold(1, 0), Due.NOT_POSSIBLE);
        isRefused(x, before, "addTurn", x.addTurn(5, 1, 0), Due.INVALID);
        isRefused(x, before, "addTurn", x.addTurn(3, 1, 1), Due.NOT_POSSIBLE);
        isRefused(x, before, "addRelease", x.addRelease(0, 0, 0), Due.INVALID);
        isRefused(x, before, "addRelease", x.addRelease(6, 0, 1), Due.NOT_POSSIBLE);
        isRefused(x, before, "removeSign", x.removeSign(3), Due.INVALID);
        isRefused(x, before, "copyPhrase", x.copyPhrase(0, 4, 16, 0, 0), Due.INVALID);
        isRefused(x, before, "copyPhrase", x.copyPhrase(0, 4, 1, 0, 0), Due.NOT_POSSIBLE);
        isRefused(x, before, "setLeap", x.setLeap(9), Due.INVALID);
        isRefused(x, before, "lay", x.lay(), Due.NOT_POSSIBLE);
        isRefused(x, before, "type", x.type(31), Due.INVALID);
        Due.is("undo", x.undo(), 2);
        Due.is("the state before the turn", x.count(1), 2);
    }

    // (nor does a question that returns an error.)
    private static void refusedQuestions() {
        LimbScore x = smallScore();
        String before = Due.stateOf(x);
        isRefused(x, before, "count", x.count(5), Due.INVALID);
        isRefused(x, before, "sign", x.sign(3, 0), Due.INVALID);
        isRefused(x, before, "sign", x.sign(1, 6), Due.NOT_FOUND);
        isRefused(x, before, "signAt", x.signAt(7, 0), Due.INVALID);
        isRefused(x, before, "signAt", x.signAt(2, 0), Due.NOT_FOUND);
        isRefused(x, before, "bears", x.bears(16), Due.INVALID);
        isRefused(x, before, "nextFault", x.nextFault(0), Due.NOT_FOUND);
        isRefused(x, before, "beats", x.beats(7), Due.INVALID);
        isRefused(x, before, "covered", x.covered(0, 4), Due.INVALID);
        isRefused(x, before, "floor", x.floor(17, 0), Due.INVALID);
        isRefused(x, before, "home", x.home(), Due.NOT_FOUND);
        isRefused(x, before, "alike", x.alike(0, 1, 16, 0), Due.INVALID);
    }

    // A history of at most 6 states is kept.
    private static void atMostSixStates() {
        LimbScore x = new LimbScore();
        for (int change = 1; change <= 9; change++) {
            x.addHold(0, change);
            Due.is("states", x.count(3), Math.min(change, 6));
        }
        for (int left = 5; left >= 0; left--) {
            Due.is("undo", x.undo(), left);
            Due.is("states", x.count(3), left);
        }
        Due.is("three changes are past", x.count(1), 3);
        Due.is("undo", x.undo(), Due.NOT_POSSIBLE);
    }

    // If there are 7 states then, the oldest one is dropped.
    private static void theOldestIsDropped() {
        LimbScore x = new LimbScore();
        for (int beats = 20; beats < 26; beats++) {
            x.reset(beats);
        }
        Due.is("six states", x.count(3), 6);
        x.reset(26);
        Due.is("not seven", x.count(3), 6);
        int[] due = {25, 24, 23, 22, 21, 20};
        for (int i = 0; i < 6; i++) {
            Due.is("undo", x.undo(), 5 - i);
            Due.is("the beats before", x.count(0), due[i]);
        }
        Due.is("the 16 beats are dropped", x.undo(), Due.NOT_POSSIBLE);
        Due.is("the oldest state that was kept", x.count(0), 20);
    }

    private static void droppedManyTimes() {
        LimbScore x = new LimbScore();
        for (int change = 0; change < 40; change++) {
            x.reset(4 + change);
            x.addMove(4, change % 4, 1, change % 9, change % 3);
        }
        for (int i = 0; i < 3; i++) {
            Due.is("undo the move", x.undo(), 5 - 2 * i);
            Due.is("the beats", x.count(0), 43 - i);
            Due.is("no sign", x.count(1), 0);
            Due.is("undo the reset", x.undo(), 4 - 2 * i);
            Due.is("the beats", x.count(0), 42 - i);
            int move = 38 - i;
            Due.signsAre("the move", x, "4 " + move % 4 + " " + (move % 4 + 1) + " 0 " + move % 9
                    + " " + move % 3 + " -");
        }
        Due.is("no more", x.undo(), Due.NOT_POSSIBLE);
    }

    // Each change records the score .. before it.
    private static void eachChangeRecordsTheScore() {
        LimbScore x = smallScore();
        x.clearText();
        Due.type(x, "5r16;");
        String before = Due.stateOf(x);
        x.lay();
        x.undo();
        Due.same("lay", Due.stateOf(x), before);
        x.copyPhrase(0, 4, 5, 1, 1);
        x.undo();
        Due.same("copyPhrase", Due.stateOf(x), before);
        x.removeSign(1);
        x.undo();
        Due.same("removeSign", Due.stateOf(x), before);
        x.addRelease(1, 5, 3);
        x.undo();
        Due.same("addRelease", Due.stateOf(x), before);
        x.reset(48);
        x.undo();
        Due.same("reset", Due.stateOf(x), before);
        Due.is("three states", x.count(3), 3);
        Due.is("sixteen beats", x.count(0), 16);
    }

    // .. and the leap before it.
    private static void eachChangeRecordsTheLeap() {
        LimbScore x = new LimbScore();
        x.setLeap(8);
        x.setLeap(0);
        x.addHold(0, 0);
        x.setLeap(5);
        Due.is("undo", x.undo(), 3);
        Due.is("the leap", x.count(2), 0);
        Due.is("the hold stays", x.count(1), 1);
        Due.is("undo", x.undo(), 2);
        Due.is("the leap", x.count(2), 0);
        Due.is("no hold", x.count(1), 0);
        Due.is("undo", x.undo(), 1);
        Due.is("the leap", x.count(2), 8);
        Due.is("eight beats", x.isFaulty(0), 1);
        Due.is("undo", x.undo(), 0);
        Due.is("the leap", x.count(2), 1);
    }

    // (a score with all its 60 signs.)
    private static void sixtySignsAreRecorded() {
        LimbScore x = new LimbScore();
        x.reset(48);
        for (int beat = 0; beat < 48; beat++) {
            x.addMove(5, beat, 1, beat % 9, beat % 3);
        }
        for (int beat = 0; beat < 12; beat++) {
            x.addTurn(36 + beat, 1, 1 + beat % 8);
        }
        x.reset(4);
        x.reset(4);
        x.reset(4);
        Due.is("undo", x.undo(), 5);
        Due.is("undo", x.undo(), 4);
        Due.is("undo", x.undo(), 3);
        Due.is("beats", x.count(0), 48);
        Due.is("signs", x.count(1), 60);
        for (int beat = 36; beat < 48; beat++) {
            Due.is("the direction", x.sign(2 * beat - 36, 4), beat % 9);
            Due.is("the amount", x.sign(2 * beat - 35, 6), 1 + (beat - 36) % 8);
        }
        Due.is("undo", x.undo(), 2);
        Due.is("signs", x.count(1), 59);
        Due.is("the last one", x.sign(58, 0), 5);
    }

    // undo: Restores the latest state of the history, which is removed from it. Returns the number
    // of states that are left in the history.
    private static void undoRemovesTheState() {
        LimbScore x = new LimbScore();
        x.setLeap(2);
        x.setLeap(3);
        Due.is("undo", x.undo(), 1);
        Due.is("one is left", x.count(3), 1);
        Due.is("the leap", x.count(2), 2);
        x.setLeap(7);
        Due.is("two again", x.count(3), 2);
        Due.is("undo", x.undo(), 1);
        Due.is("the leap", x.count(2), 2);
        Due.is("undo", x.undo(), 0);
        Due.is("the leap", x.count(2), 1);
    }

    // undo: NOT_POSSIBLE if it is empty.
    private static void undoOfNothing() {
        LimbScore x = new LimbScore();
        Due.is("a new object", x.undo(), Due.NOT_POSSIBLE);
        x.type('0');
        Due.is("a text alone", x.undo(), Due.NOT_POSSIBLE);
        x.addHold(0, 0);
        Due.is("one state", x.undo(), 0);
        Due.is("none", x.undo(), Due.NOT_POSSIBLE);
        Due.is("sixteen beats", x.count(0), 16);
        Due.is("the leap", x.count(2), 1);
        Due.is("the states", x.count(3), 0);
    }

    // (the history has no text.)
    private static void undoLeavesTheText() {
        LimbScore x = new LimbScore();
        Due.type(x, "0k;");
        x.lay();
        x.clearText();
        Due.type(x, "1r2;3");
        Due.is("undo", x.undo(), 0);
        Due.is("the text", x.count(4), 5);
        Due.is("its fault", x.fault(), 4);
    }

    // setLeap, leap: 0 to 8; Returns the previous leap. (initially 1)
    private static void leapRange() {
        LimbScore x = new LimbScore();
        int before = 1;
        for (int leap = 0; leap <= 8; leap++) {
            Due.is("setLeap(" + leap + ")", x.setLeap(leap), before);
            Due.is("the leap", x.count(2), leap);
            before = leap;
        }
        for (int wrong : new int[] {-1, 9, MIN, MAX}) {
            Due.is("setLeap(" + wrong + ")", x.setLeap(wrong), Due.INVALID);
            Due.is("the leap", x.count(2), 8);
        }
    }

    // count, what: 0: B; 1: signs; 2: the leap; 3: states in the history; 4: the length of the
    // text; INVALID_ARGUMENT if what is out of range.
    private static void countRange() {
        LimbScore x = smallScore();
        x.reset(40);
        x.setLeap(7);
        x.addHold(0, 39);
        int[] due = {40, 1, 7, 6, 6};
        for (int what = 0; what < 5; what++) {
            Due.is("count(" + what + ")", x.count(what), due[what]);
        }
        for (int wrong : new int[] {-1, 5, MIN, MAX}) {
            Due.is("count(" + wrong + ")", x.count(wrong), Due.INVALID);
        }
    }

    // INVALID_ARGUMENT is returned rather than NOT_POSSIBLE.
    private static void invalidBeforeNotPossible() {
        LimbScore x = smallScore();
        Due.is("the direction", x.addMove(0, 0, 1, 9, 1), Due.INVALID);
        Due.is("the level", x.addMove(0, 0, 1, 1, 3), Due.INVALID);
        Due.is("the length", x.addMove(0, 0, 17, 1, 1), Due.INVALID);
        Due.is("the amount", x.addTurn(0, 1, 9), Due.INVALID);
        Due.is("the length", x.addTurn(0, 0, 1), Due.INVALID);
        Due.is("the length", x.addRelease(0, 0, 17), Due.INVALID);
        Due.is("the beat", x.addHold(1, -1), Due.INVALID);
        Due.is("the flag", x.copyPhrase(0, 4, 0, 0, 2), Due.INVALID);
        Due.is("the flag", x.copyPhrase(0, 4, 0, -1, 0), Due.INVALID);
        Due.is("the last beat", x.copyPhrase(0, 0, 0, 0, 0), Due.INVALID);
    }

    private static LimbScore fullScore() {
        LimbScore x = new LimbScore();
        x.reset(48);
        for (int beat = 0; beat < 30; beat++) {
            x.addHold(0, beat);
            x.addTurn(beat, 1, 1);
        }
        return x;
    }

    // NOT_POSSIBLE rather than LIMIT_REACHED.
    private static void notPossibleBeforeLimit() {
        LimbScore x = fullScore();
        Due.is("a hold", x.addHold(0, 29), Due.NOT_POSSIBLE);
        Due.is("a hold that could be added", x.addHold(0, 30), Due.LIMIT);
        Due.is("a move", x.addMove(0, 0, 48, 1, 1), Due.NOT_POSSIBLE);
        Due.is("a move that could be added", x.addMove(0, 30, 18, 1, 1), Due.LIMIT);
        Due.is("a turn", x.addTurn(29, 19, 1), Due.NOT_POSSIBLE);
        Due.is("a turn that could be added", x.addTurn(30, 18, 1), Due.LIMIT);
        Due.is("a release", x.addRelease(6, 0, 1), Due.NOT_POSSIBLE);
        Due.is("a release that could be added", x.addRelease(6, 47, 1), Due.LIMIT);
        Due.is("a copy", x.copyPhrase(0, 1, 29, 0, 0), Due.NOT_POSSIBLE);
        Due.is("a copy that could be added", x.copyPhrase(0, 1, 30, 0, 0), Due.LIMIT);
        Due.is("six states", x.count(3), 6);
        Due.is("undo", x.undo(), 5);
        Due.is("the last change that was none", x.count(1), 59);
    }

    // (so INVALID_ARGUMENT rather than LIMIT_REACHED.)
    private static void invalidBeforeLimit() {
        LimbScore x = fullScore();
        Due.is("a hold", x.addHold(7, 30), Due.INVALID);
        Due.is("a move", x.addMove(1, 30, 19, 1, 1), Due.INVALID);
        Due.is("a turn", x.addTurn(30, 1, 0), Due.INVALID);
        Due.is("a release", x.addRelease(0, 48, 1), Due.INVALID);
        Due.is("a copy", x.copyPhrase(0, 1, 48, 0, 0), Due.INVALID);
    }

    // If there is no beat, column or sign with a certain number, this is INVALID_ARGUMENT (rather
    // than NOT_FOUND).
    private static void invalidBeforeNotFound() {
        LimbScore x = new LimbScore();
        x.addHold(0, 0);
        x.addHold(1, 0);
        Due.is("sign: no such sign", x.sign(2, 4), Due.INVALID);
        Due.is("sign: no direction", x.sign(1, 4), Due.NOT_FOUND);
        Due.is("signAt: no such column", x.signAt(7, 0), Due.INVALID);
        Due.is("signAt: no such beat", x.signAt(2, 16), Due.INVALID);
        Due.is("signAt: no sign", x.signAt(2, 15), Due.NOT_FOUND);
        Due.is("nextFault: no such beat", x.nextFault(16), Due.INVALID);
        Due.is("nextFault: no fault", x.nextFault(15), Due.NOT_FOUND);
    }

    // The constants.
    private static void numbersOfTheFace() {
        Due.is("INVALID_ARGUMENT", LimbScore.INVALID_ARGUMENT, -1001);
        Due.is("NOT_POSSIBLE", LimbScore.NOT_POSSIBLE, -1002);
        Due.is("LIMIT_REACHED", LimbScore.LIMIT_REACHED, -1003);
        Due.is("NOT_FOUND", LimbScore.NOT_FOUND, -1004);
    }
}
