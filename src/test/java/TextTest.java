/** Promises 10 and 26 to 28: the text, its fault, and laying it. */
public final class TextTest {
    public static void main(String[] args) {
        type();
        clearText();
        itemsOfTheForm();
        itemsNotOfTheForm();
        kindsOfColumns();
        places();
        theEnd();
        lay();
        layErrors();
        Due.end();
    }

    private static void type() {
        LimbScore x = new LimbScore();
        Due.is("type(31)", x.type(31), Due.INVALID);
        Due.is("type(127)", x.type(127), Due.INVALID);
        Due.is("type(-1)", x.type(-1), Due.INVALID);
        Due.is("refused: length", x.count(4), 0);
        for (int length = 1; length <= 120; length++) {
            Due.is("type", x.type(length % 2 == 0 ? 32 : 126), length);
        }
        Due.is("type, full", x.type(50), Due.LIMIT);
        Due.is("type, full and wrong", x.type(127), Due.INVALID);
        Due.is("full: length", x.count(4), 120);
        Due.is("no change", x.count(3), 0);
    }

    private static void clearText() {
        LimbScore x = new LimbScore();
        Due.is("clearText, empty", x.clearText(), 0);
        Due.type(x, "abc");
        Due.is("fault", x.fault(), 0);
        Due.is("clearText", x.clearText(), 3);
        Due.is("length", x.count(4), 0);
        Due.is("no fault", x.fault(), Due.NOT_FOUND);
        Due.is("no change", x.count(3), 0);
        Due.is("type again", x.type('0'), 1);
    }

    private static void faultIs(String text, int due) {
        LimbScore x = new LimbScore();
        Due.type(x, text);
        Due.is("\"" + text + "\": fault", x.fault(), due);
        Due.is("\"" + text + "\": lay refused", x.lay() == Due.NOT_POSSIBLE ? 1 : 0,
                due == Due.NOT_FOUND ? 0 : 1);
    }

    private static void itemsOfTheForm() {
        String[] texts = {"", "0m0l1;", "5m8h16;", "3m5n09;", "0k;", "6k;", "6t+1/1;", "6t-8/16;",
            "6t+8/04;", "0r1;", "6r16;", "6e1;", "0e16;", "0e01;1e02;"};
        for (String text : texts) {
            faultIs(text, Due.NOT_FOUND);
        }
    }

    private static void itemsNotOfTheForm() {
        String[] items = {";", " ", "0", "m", "0m", "0m1", "0m1l", "0m1l1", "0m9l1;", "0ml1;",
            "0m1m1;", "0m1L1;", "0m1l;", "0m1l0;", "0m1l00;", "0m1l001;", "0m1l1 ;", "0 m1l1;",
            "0m1l1,", "0m-1l1;", "7k;", "8e1;", "9r1;", ":k;", "/k;", "k;", "0k", "0k1;", "00k;",
            "0K;", "6t", "6t+", "6t+1", "6t+1/", "6t+1/1", "6t+0/1;", "6t+9/1;", "6t1/1;",
            "6t*1/1;", "6t+1-1;", "6t+11/1;", "6t+1/0;", "6t+1/00;", "6t+1/001;", "6t+1/;",
            "0r", "0r1", "0r;", "0r0;", "0r00;", "0r001;", "0e", "0e1", "0e;", "0e0;", "0e00;",
            "0e001;", "0x1;", "0", "0e+1;"};
        for (String item : items) {
            faultIs(item, 0);
            faultIs("1k;" + item, 3);
            faultIs(item + "1k;", 0);
        }
        faultIs("0k; 0k;", 3);
        faultIs("0k;1e2;0m1l1", 7);
    }

    private static void kindsOfColumns() {
        for (int column = 0; column < 7; column++) {
            faultIs(column + "m1l1;", column < 6 ? Due.NOT_FOUND : 0);
            faultIs(column + "t+1/1;", column == 6 ? Due.NOT_FOUND : 0);
            faultIs(column + "k;", Due.NOT_FOUND);
            faultIs(column + "r1;", Due.NOT_FOUND);
            faultIs(column + "e1;", Due.NOT_FOUND);
        }
    }

    private static void places() {
        faultIs("0m1l16;1k;", Due.NOT_FOUND);
        faultIs("0m1l17;", 0);
        faultIs("6t+1/17;", 0);
        faultIs("0r17;", 0);
        faultIs("0e17;", 0);
        faultIs("0e99;", 0);
        faultIs("0e16;0k;", 5);
        faultIs("0e15;0k;", Due.NOT_FOUND);
        faultIs("0e15;0k;0e1;", 8);
        faultIs("0e10;1e10;0r6;1r7;", 14);
        faultIs("0k;0k;0m1n14;", Due.NOT_FOUND);
        faultIs("0k;0k;0m1n15;", 6);
    }

    private static void theEnd() {
        LimbScore x = new LimbScore();
        Due.type(x, "0e15;0m1n5;");
        Due.is("16 beats", x.fault(), 5);
        x.reset(20);
        Due.is("20 beats", x.fault(), Due.NOT_FOUND);
        x.reset(14);
        Due.is("14 beats", x.fault(), 0);
        x.undo();
        Due.is("20 beats again", x.fault(), Due.NOT_FOUND);
        Due.is("no change", x.count(3), 1);
        Due.is("no sign", x.count(1), 0);
    }

    private static void lay() {
        LimbScore x = new LimbScore();
        x.setLeap(3);
        x.addHold(3, 3);
        Due.type(x, "6t-8/02;0k;0e2;0m7h3;5m0l1;6k;0r01;5e4;5m8n11;6r1;6t+3/9;");
        Due.is("lay", x.lay(), 9);
        Due.signsAre("lay", x, "0 0 3 1 - - -", "5 0 1 0 0 0 -", "6 0 2 2 - - -8", "6 2 3 1 - - -",
                "0 3 6 0 7 2 -", "6 3 4 3 - - -", "6 4 13 2 - - 3", "5 5 16 0 8 1 -",
                "0 6 7 3 - - -");
        Due.is("the text stays", x.count(4), 57);
        Due.is("the leap stays", x.count(2), 3);
        Due.is("states", x.count(3), 3);
        Due.is("lay again", x.lay(), 9);
        Due.is("also a change", x.count(3), 4);
        x.undo();
        Due.is("undo", x.undo(), 2);
        Due.signsAre("undo", x, "3 3 16 1 - - -");
        x.clearText();
        Due.is("lay nothing", x.lay(), 0);
        Due.is("lay nothing: signs", x.count(1), 0);
        Due.type(x, "0e4;6e1;");
        x.addHold(0, 0);
        Due.is("lay gaps alone", x.lay(), 0);
        Due.is("lay gaps alone: B", x.count(0), 16);
        x.clearText();
        for (int i = 0; i < 40; i++) {
            Due.type(x, (i % 4) + "k;");
        }
        Due.is("40 holds", x.lay(), 40);
    }

    private static void layErrors() {
        LimbScore x = new LimbScore();
        x.addHold(3, 3);
        Due.type(x, "0k;0m1l1;0m9l1;");
        Due.is("lay, fault", x.lay(), Due.NOT_POSSIBLE);
        Due.is("fault", x.fault(), 9);
        Due.signsAre("refused", x, "3 3 16 1 - - -");
        Due.is("refused: states", x.count(3), 1);
    }
}
