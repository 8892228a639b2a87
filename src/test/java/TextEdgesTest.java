/**
 * The edges that the document names in "Texts" and in the promises 10 and 26 to 28. Above each
 * test stands the sentence that it holds the class to.
 */
public final class TextEdgesTest {
    private static final int MAX = Integer.MAX_VALUE;
    private static final int MIN = Integer.MIN_VALUE;
    private static final int NONE = Due.NOT_FOUND;

    public static void main(String[] args) {
        charactersOfTheText();
        fullText();
        fullTextIsRead();
        clearedText();
        emptyText();
        columnDigits();
        moves();
        holds();
        turns();
        releases();
        gaps();
        semicolons();
        lengthDigits();
        lengthsAtLeastOne();
        zerosAhead();
        firstItemAtZero();
        whereTheItemBeforeEnds();
        holdAsOneBeat();
        columnsApart();
        gapsStayEmpty();
        holdsLastOn();
        firstCharacterOfTheItem();
        firstFaultOfAll();
        kindsThatTheColumnHasNot();
        movesBeyondTheEnd();
        otherItemsBeyondTheEnd();
        itemsAtTheEnd();
        faultOfAnotherLength();
        mostItems();
        layReplaces();
        layAnswers();
        layOfAFault();
        Due.end();
    }

    private static void faultIs(int due, String text) {
        LimbScore x = new LimbScore();
        Due.type(x, text);
        Due.is("\"" + text + "\": fault", x.fault(), due);
        boolean isRefused = x.lay() == Due.NOT_POSSIBLE;
        Due.is("\"" + text + "\": lay refused", isRefused ? 1 : 0, due == NONE ? 0 : 1);
        Due.is("\"" + text + "\": states", x.count(3), due == NONE ? 1 : 0);
    }

    /** Each text as the only one, ahead of a good item and behind one. */
    private static void areFaults(String... items) {
        for (String item : items) {
            faultIs(0, item);
            faultIs(0, item + "1k;");
            faultIs(5, "1e16;" + item);
        }
    }

    private static void areOfTheForm(String... items) {
        for (String item : items) {
            faultIs(NONE, item);
        }
    }

    // type, character: 32 to 126.
    private static void charactersOfTheText() {
        LimbScore x = new LimbScore();
        for (int wrong : new int[] {31, 127, 0, -1, 256, 32 + 65536, MIN, MAX}) {
            Due.is("type(" + wrong + ")", x.type(wrong), Due.INVALID);
        }
        Due.is("nothing is typed", x.count(4), 0);
        for (int character = 32; character <= 126; character++) {
            Due.is("type(" + character + ")", x.type(character), character - 31);
        }
        Due.is("no change", x.count(3), 0);
    }

    // LIMIT_REACHED if it has 120 characters.
    private static void fullText() {
        LimbScore x = new LimbScore();
        for (int length = 1; length <= 120; length++) {
            Due.is("type", x.type(32 + length % 95), length);
        }
        Due.is("the 121st", x.type(32), Due.LIMIT);
        Due.is("the 121st, out of range", x.type(31), Due.INVALID);
        Due.is("the 121st, out of range", x.type(127), Due.INVALID);
        Due.is("120", x.count(4), 120);
        Due.is("120", x.clearText(), 120);
        Due.is("the first one again", x.type(126), 1);
    }

    // There is a text of at most 120 characters. (all of them are read.)
    private static void fullTextIsRead() {
        LimbScore x = new LimbScore();
        for (int i = 0; i < 39; i++) {
            Due.type(x, i % 3 + "k;");
        }
        Due.type(x, "6k");
        Due.is("119 characters", x.fault(), 117);
        Due.is("the last character", x.type(';'), 120);
        Due.is("120 characters", x.fault(), NONE);
        Due.is("lay", x.lay(), 40);
        Due.is("the last item", x.sign(x.signAt(6, 0), 2), 16);
        x.clearText();
        for (int i = 0; i < 39; i++) {
            Due.type(x, i % 3 + "k;");
        }
        Due.type(x, "6r10");
        Due.is("no room for the end of an item", x.fault(), 117);
        Due.is("120", x.count(4), 120);
    }

    // clearText: Empties the text. Returns the length it had.
    private static void clearedText() {
        LimbScore x = new LimbScore();
        Due.is("an empty text", x.clearText(), 0);
        Due.type(x, "0m1n1;5");
        Due.is("seven", x.clearText(), 7);
        Due.is("none", x.clearText(), 0);
        Due.is("count", x.count(4), 0);
        Due.type(x, "0k");
        Due.is("nothing of the old text is read", x.fault(), 0);
        Due.is("no change", x.count(3), 0);
    }

    // fault: NOT_FOUND if it has none (also if it is empty).
    private static void emptyText() {
        LimbScore x = new LimbScore();
        Due.is("a new text", x.fault(), NONE);
        Due.type(x, "x");
        Due.is("a fault", x.fault(), 0);
        x.clearText();
        Due.is("a cleared text", x.fault(), NONE);
        Due.is("lay", x.lay(), 0);
    }

    // A digit for the column.
    private static void columnDigits() {
        areOfTheForm("0k;", "1k;", "2k;", "3k;", "4k;", "5k;", "6k;");
        areFaults("7k;", "8k;", "9k;", "/k;", ":k;", "k;", "ak;", "-1k;", "00k;", "+0k;", " 0k;");
    }

    // Then "m", a direction digit, "l", "n" or "h" (low, middle, high), and a length.
    private static void moves() {
        areOfTheForm("0m0l1;", "1m1n1;", "2m2h1;", "3m3l1;", "4m4n1;", "5m5h1;", "0m6l1;",
                "0m7n1;", "0m8h1;");
        areFaults("0m9l1;", "0m/l1;", "0m:l1;", "0ml1;", "0m11;", "0m1L1;", "0m1N1;", "0m1H1;",
                "0m1m1;", "0m1k1;", "0m1 1;", "0m12l1;", "0m1ln1;", "0M1l1;", "0m1l;", "0m1;",
                "0m;", "0m-1l1;", "0m1l+1;");
    }

    // Or "k" (a hold).
    private static void holds() {
        areOfTheForm("0k;", "0k;0k;", "6k;6e1;6k;");
        areFaults("0k1;", "0K;", "0kk;", "0k ;", "0k01;", "0h;");
    }

    // Or "t", "+" or "-", a digit (1 to 8, the size of the amount), "/", and a length.
    private static void turns() {
        for (int size = 1; size <= 8; size++) {
            LimbScore x = Due.laid(16, "6t+" + size + "/2;6t-" + size + "/03;");
            Due.signsAre("turns", x, "6 0 2 2 - - " + size, "6 2 5 2 - - -" + size);
        }
        areFaults("6t+0/1;", "6t-0/1;", "6t+9/1;", "6t-9/1;", "6t1/1;", "6t 1/1;", "6t*1/1;",
                "6t,1/1;", "6t+1;", "6t+11;", "6t+11/1;", "6t+1.1;", "6t+1:1;", "6t+/1;", "6t+;",
                "6t;", "6t++1/1;", "6t+1//1;", "6t+1/;", "6T+1/1;", "6t+1/-1;");
    }

    // Or "r" and a length.
    private static void releases() {
        areOfTheForm("0r1;", "6r16;", "3r09;");
        areFaults("0r;", "0R1;", "0rr1;", "0r+1;", "0r 1;", "0r1 ;", "0r1.;");
    }

    // Or "e" and a length.
    private static void gaps() {
        areOfTheForm("0e1;", "6e16;", "3e09;");
        areFaults("0e;", "0E1;", "0ee1;", "0e-1;", "0e 1;", "0e1 ;");
    }

    // Items, each followed by ";". (also the last one)
    private static void semicolons() {
        String[] items = {"0m1n1", "0k", "6t+1/1", "0r1", "0e1", "0m1n10", "6t+1/10", "0r10"};
        for (String item : items) {
            areOfTheForm(item + ";");
            for (int length = 1; length <= item.length(); length++) {
                faultIs(0, item.substring(0, length));
                faultIs(3, "1k;" + item.substring(0, length));
            }
            areFaults(item + ",", item + ":");
            faultIs(item.length() + 1, item + ";;");
        }
        areFaults(";", " ", ";0k;");
        faultIs(3, "0k;;");
        faultIs(3, "0k; ");
        faultIs(3, "0k; 0k;");
    }

    // Lengths have one or two digits.
    private static void lengthDigits() {
        areOfTheForm("0m1n9;", "0m1n10;", "6t+1/9;", "6t+1/10;", "0r9;", "0r10;", "0e9;", "0e10;");
        areFaults("0m1n010;", "0m1n001;", "6t+1/010;", "0r010;", "0e010;", "0e001;", "0m1n100;",
                "0r1a;", "0ra1;", "0r1/;", "0r1:;");
    }

    // At least 1.
    private static void lengthsAtLeastOne() {
        areOfTheForm("0m1n1;", "6t+1/1;", "0r1;", "0e1;");
        areFaults("0m1n0;", "0m1n00;", "6t+1/0;", "6t+1/00;", "0r0;", "0r00;", "0e0;", "0e00;");
    }

    // Zeros may stand ahead.
    private static void zerosAhead() {
        LimbScore x = Due.laid(16, "0m1n01;0r09;4e05;4k;6t-2/08;");
        Due.signsAre("zeros", x, "0 0 1 0 1 1 -", "6 0 8 2 - - -2", "0 1 10 3 - - -",
                "4 5 16 1 - - -");
    }

    // Each item begins .. the first one at the beat 0.
    private static void firstItemAtZero() {
        for (int column = 0; column < 7; column++) {
            LimbScore x = Due.laid(16, (column + 1) % 7 + "r5;" + column + "r2;");
            Due.is("the begin", x.signAt(column, 0) < 0 ? 1 : 0, 0);
            Due.is("covered", x.covered(column, 3), 2);
        }
    }

    // Each item begins in its column where the item before it in this column ends.
    private static void whereTheItemBeforeEnds() {
        LimbScore x = Due.laid(16, "4m1n3;5r1;4m2l2;5e7;4e1;5m0h2;4r10;5k;");
        Due.signsAre("begins", x, "4 0 3 0 1 1 -", "5 0 1 3 - - -", "4 3 5 0 2 0 -",
                "4 6 16 3 - - -", "5 8 10 0 0 2 -", "5 10 16 1 - - -");
    }

    // (a hold counts as one beat there)
    private static void holdAsOneBeat() {
        LimbScore x = Due.laid(4, "4k;4k;4m1n1;4k;");
        Due.signsAre("holds", x, "4 0 1 1 - - -", "4 1 2 1 - - -", "4 2 3 0 1 1 -",
                "4 3 4 1 - - -");
        faultIs(NONE, "4e15;4k;");
        faultIs(5, "4e16;4k;");
        faultIs(8, "4e15;4k;4k;");
        faultIs(8, "4e15;4k;4e1;");
    }

    private static void columnsApart() {
        LimbScore x = Due.laid(4, "0r4;1r4;2r4;3r4;4r4;5r4;6r4;");
        Due.is("all columns", x.count(1), 7);
        for (int column = 0; column < 7; column++) {
            Due.is("all beats", x.covered(column, 3), 4);
        }
    }

    // No sign: these beats stay empty ..
    private static void gapsStayEmpty() {
        LimbScore x = Due.laid(8, "0e2;0m1n1;0e3;0r1;0e1;");
        int[] due = {-1, -1, 0, -1, -1, -1, 1, -1};
        for (int beat = 0; beat < 8; beat++) {
            Due.is("signAt(0, " + beat + ")", x.signAt(0, beat), due[beat] < 0 ? NONE : due[beat]);
        }
        Due.is("gaps are no signs", x.count(1), 2);
    }

    // .. or a hold before them lasts on.
    private static void holdsLastOn() {
        LimbScore x = Due.laid(8, "0e1;0k;0e3;0m1n1;0e2;");
        int[] due = {-1, 0, 0, 0, 0, 1, -1, -1};
        for (int beat = 0; beat < 8; beat++) {
            Due.is("signAt(0, " + beat + ")", x.signAt(0, beat), due[beat] < 0 ? NONE : due[beat]);
        }
        Due.is("to the end", Due.laid(8, "6k;6e7;").sign(0, 2), 8);
    }

    // The position, from 0, of the first character of the item.
    private static void firstCharacterOfTheItem() {
        faultIs(0, "0m1x1;");
        faultIs(3, "0k;0m1x1;");
        faultIs(9, "0k;0m1n1;6t+9/1;");
        faultIs(16, "0k;0m1n1;6t+8/1;0r");
        faultIs(5, "0e16;0m1n1;");
        LimbScore x = new LimbScore();
        for (int i = 0; i < 39; i++) {
            Due.type(x, i % 3 + "k;");
        }
        Due.type(x, "x");
        Due.is("far behind", x.fault(), 117);
    }

    // Of the FIRST item that is not of this form.
    private static void firstFaultOfAll() {
        faultIs(3, "0k;7k;0m;0e99;");
        faultIs(3, "0k;0e16;7k;");
        faultIs(3, "0k;6m1n1;7k;");
        faultIs(3, "0k;0t+1/1;0m1n99;");
    }

    // .. has a kind that its column has not.
    private static void kindsThatTheColumnHasNot() {
        for (int column = 0; column < 7; column++) {
            faultIs(column == 6 ? 0 : NONE, column + "m1n1;");
            faultIs(column == 6 ? NONE : 0, column + "t+1/1;");
            faultIs(NONE, column + "k;");
            faultIs(NONE, column + "r1;");
            faultIs(NONE, column + "e1;");
        }
    }

    // .. goes beyond the end of the score.
    private static void movesBeyondTheEnd() {
        faultIs(NONE, "0m1n16;");
        faultIs(0, "0m1n17;");
        faultIs(0, "0m1n99;");
        faultIs(5, "0e15;0m1n2;");
        faultIs(NONE, "0e15;0m1n1;");
        faultIs(8, "0k;0e14;0m1n2;");
        faultIs(NONE, "0k;0e14;0m1n1;");
    }

    private static void otherItemsBeyondTheEnd() {
        areFaults("6t+1/17;", "6t+1/99;", "0r17;", "0r99;", "0e17;", "0e99;");
        faultIs(5, "6e15;6t+1/2;");
        faultIs(5, "6e15;6r2;");
        faultIs(5, "6e15;6e2;");
        faultIs(5, "6e16;6e1;");
        faultIs(5, "6e16;6k;");
    }

    private static void itemsAtTheEnd() {
        areOfTheForm("6t+1/16;", "0r16;", "0e16;", "6e15;6t+1/1;", "6e15;6r1;", "6e15;6e1;",
                "6e15;6k;");
        LimbScore x = Due.laid(48, "0m1n48;1e47;1k;6t+1/48;");
        Due.is("48 beats", x.sign(0, 2), 48);
        Due.is("48 beats", x.sign(x.signAt(1, 47), 1), 47);
        x = new LimbScore();
        x.reset(48);
        Due.type(x, "0m1n48;0k;");
        Due.is("the beat 48", x.fault(), 7);
    }

    // (the end of the score is that of the present one.)
    private static void faultOfAnotherLength() {
        LimbScore x = new LimbScore();
        Due.type(x, "0e4;0m1n1;");
        Due.is("16 beats", x.fault(), NONE);
        x.reset(4);
        Due.is("4 beats", x.fault(), 4);
        Due.is("lay", x.lay(), Due.NOT_POSSIBLE);
        x.reset(5);
        Due.is("5 beats", x.fault(), NONE);
        x.undo();
        Due.is("4 beats again", x.fault(), 4);
        x.reset(48);
        Due.is("48 beats", x.lay(), 1);
        Due.is("its end", x.sign(0, 2), 5);
    }

    // .. or is the 61st sign. (120 characters hold at most 40 items, so there is none.)
    private static void mostItems() {
        LimbScore x = new LimbScore();
        x.reset(48);
        for (int i = 0; i < 40; i++) {
            Due.type(x, "3k;");
        }
        Due.is("no fault", x.fault(), NONE);
        Due.is("lay", x.lay(), 40);
        Due.is("the last one", x.sign(39, 1), 39);
    }

    // lay: Replaces all signs by those of the text. The text stays.
    private static void layReplaces() {
        LimbScore x = Due.laid(16, "0k;1k;");
        x.setLeap(6);
        x.clearText();
        Due.type(x, "0e3;6t+1/2;");
        Due.is("lay", x.lay(), 1);
        Due.signsAre("replaced", x, "6 0 2 2 - - 1");
        Due.is("the text stays", x.count(4), 11);
        Due.is("the leap stays", x.count(2), 6);
        Due.is("the beats stay", x.count(0), 16);
        Due.is("lay again", x.lay(), 1);
        Due.signsAre("the same", x, "6 0 2 2 - - 1");
        x.clearText();
        Due.is("an empty text", x.lay(), 0);
        Due.is("no sign", x.count(1), 0);
        x.undo();
        Due.is("one sign again", x.count(1), 1);
    }

    // lay: Returns the number of signs.
    private static void layAnswers() {
        String[] texts = {"", "0e1;", "0k;", "0k;0k;", "5e3;5k;4r2;6t+1/1;6e2;"};
        int[] due = {0, 0, 1, 2, 3};
        for (int i = 0; i < texts.length; i++) {
            LimbScore x = new LimbScore();
            x.addHold(3, 3);
            Due.type(x, texts[i]);
            Due.is("lay \"" + texts[i] + "\"", x.lay(), due[i]);
            Due.is("signs", x.count(1), due[i]);
        }
    }

    // lay: NOT_POSSIBLE if the text has a fault.
    private static void layOfAFault() {
        LimbScore x = Due.laid(16, "0k;1m1n2;");
        Due.type(x, "0");
        String before = Due.stateOf(x);
        Due.is("lay", x.lay(), Due.NOT_POSSIBLE);
        Due.same("nothing is replaced", Due.stateOf(x), before);
        Due.type(x, "r1;");
        Due.is("lay", x.lay(), 3);
    }
}
