/** Promises 1 to 9: the town, told in a text, and what is told of it. */
public final class TownTest {
    // FAR: office to 1: 7, office to 2: 10, 1 to 2: 9
    private static final String THREE = "place 10 10;place 13 14;place 10 20;"
            + "letter 1 5 7 9;letter 2 5 30 4;letter 1 8 6 6;stone 3;";

    public static void main(String[] args) {
        newObject();
        feeding();
        townTakesOver();
        townResets();
        faultChangesNothing();
        wordsAndBlanks();
        cannotStand();
        numbers();
        tooMany();
        faultIsTheLatest();
        toldAll();
        placesAndFar();
        letters();
        orders();
        Check.end("TownTest");
    }

    private static void newObject() {
        HeaviestFirst x = new HeaviestFirst();
        int[] due = {0, 0, 1, 0, 0, 0, 0, 0, 0, 0, 0};
        for (int what = 0; what < due.length; what++) {
            Check.due("new told(" + what + ")", x.told(what), due[what]);
        }
        Check.due("new fault()", x.fault(), Check.NONE);
        Check.due("new place(0, 0)", x.place(0, 0), Check.UNKNOWN);
        Check.due("new letter(0, 0)", x.letter(0, 0), Check.UNKNOWN);
        Check.due("new far(0, 0)", x.far(0, 0), Check.UNKNOWN);
        Check.due("new order(0)", x.order(0), Check.NONE);
        Check.due("new stones(0, 0)", x.stones(0, 0), Check.UNKNOWN);
        Check.due("new answer(0)", x.answer(0), Check.UNKNOWN);
        Check.due("new rests(0)", x.rests(0), Check.UNKNOWN);
        Check.due("new rests(-1)", x.rests(-1), 0);
        Check.due("new rests(-2)", x.rests(-2), 0);
        Check.due("new rests(-3)", x.rests(-3), 0);
        Check.due("new best()", x.best(), 0);
        Check.due("new agreed(1, 0)", x.agreed(1, 0), Check.UNKNOWN);
        Check.due("new two(0)", x.two(0), 0);
        Check.due("new two(1)", x.two(1), 0);
        Check.due("new came(0)", x.came(0), Check.UNKNOWN);
        Check.due("new ends(0, 0)", x.ends(0, 0), Check.UNKNOWN);
        Check.due("new write(0, 0)", x.write(0, 0), Check.UNKNOWN);
        Check.due("new tear()", x.tear(), 0);
        Check.due("new judge()", x.judge(), Check.NONE);
        Check.due("new goBack(0)", x.goBack(0), Check.NOT);
        Check.due("new goBack(1)", x.goBack(1), Check.NOT);
        Check.due("new seed(0)", x.seed(0), 0);
        Check.due("new law(0)", x.law(0), 0);
        Check.due("new price(0)", x.price(0), 1);
    }

    private static void feeding() {
        HeaviestFirst x = new HeaviestFirst();
        Check.due("feed(0)", x.feed(0, 32), Check.OUTSIDE);
        Check.due("feed(9)", x.feed(9, 32), Check.OUTSIDE);
        Check.due("feed(-1)", x.feed(-1, 32), Check.OUTSIDE);
        Check.due("feed(least)", x.feed(Integer.MIN_VALUE, 32), Check.OUTSIDE);
        Check.due("feed(most)", x.feed(Integer.MAX_VALUE, 32), Check.OUTSIDE);
        Check.due("refused, told(3)", x.told(3), 0);
        // the bytes above the lowest n do not count, and the highest of the n comes first
        Check.due("feed(1, ..p)", x.feed(1, 0x7878787878787870L), 1);
        Check.due("feed(4, ..lace)", x.feed(4, 0x787878786c616365L), 5);
        Check.due("feed(8,  10  99;)", x.feed(8, 0x203130202039393bL), 13);
        Check.due("told(3)", x.told(3), 13);
        Check.due("town()", x.town(), 0);
        Check.due("fault()", x.fault(), Check.NONE);
        Check.due("place(0, 0)", x.place(0, 0), 10);
        Check.due("place(0, 1)", x.place(0, 1), 99);
        Check.due("told(3) behind town", x.told(3), 0);
        for (int k = 1; k <= 49; k++) {
            Check.due("feed 8 blanks", x.feed(8, 0x2020202020202020L), 8 * k);
        }
        Check.due("feed(1)", x.feed(1, 32), 393);
        Check.due("feed(8) at 393", x.feed(8, 0x2020202020202020L), Check.FULL);
        Check.due("told(3) at 393", x.told(3), 393);
        Check.due("feed(9) at 393", x.feed(9, 0), Check.OUTSIDE);
        Check.due("feed(7) at 393", x.feed(7, 0x20202020202020L), 400);
        Check.due("feed(1) at 400", x.feed(1, 32), Check.FULL);
        Check.due("feed(0) at 400", x.feed(0, 32), Check.OUTSIDE);
        Check.due("400 blanks: town()", x.town(), 0);
        Check.due("400 blanks: places", x.told(0), 0);
        // a signed byte is no figure and no letter
        Check.due("feed(1, 255)", x.feed(1, -1L), 1);
        Check.due("town() of 255", x.town(), -11);
        Check.due("fault() of 255", x.fault(), 0);
        fullTextIsRead();
    }

    private static void fullTextIsRead() {
        StringBuilder text = new StringBuilder("place 0 0;");
        while (text.length() < 385) {
            text.append(' ');
        }
        text.append("letter 0 99 9;x");
        HeaviestFirst x = new HeaviestFirst();
        Check.feed(x, text.toString());
        Check.due("told(3)", x.told(3), 400);
        Check.due("town() of 400", x.town(), -11);
        Check.due("fault() of 400", x.fault(), 398);
        text.setLength(385);
        text.append("letter 0 99 9 8");
        Check.feed(x, text.toString());
        Check.due("town() of 400, no end", x.town(), -11);
        Check.due("fault() of 400, no end", x.fault(), 400);
        text.setLength(384);
        text.append("letter 0 99 9 8;");
        Check.feed(x, text.toString());
        Check.due("town() of 400, whole", x.town(), 1);
        Check.due("letter(0, 3)", x.letter(0, 3), 8);
    }

    private static void townTakesOver() {
        HeaviestFirst x = Check.town(THREE, 3);
        Check.due("fault()", x.fault(), Check.NONE);
        Check.due("told(0)", x.told(0), 3);
        Check.due("told(1)", x.told(1), 3);
        Check.due("told(2)", x.told(2), 3);
        int[][] letters = {{1, 5, 7, 9}, {2, 5, 30, 4}, {1, 8, 6, 6}};
        for (int l = 0; l < 3; l++) {
            for (int what = 0; what < 4; what++) {
                Check.due("letter(" + l + ", " + what + ")", x.letter(l, what), letters[l][what]);
            }
        }
        // the most there can be, in any order of clauses, at all bounds
        x = Check.town("stone 99;place 99 0;letter 0 99 999 99;place 0 99;letter 1 1 0 0;", 2);
        Check.due("told(2)", x.told(2), 99);
        Check.due("letter(0, 1)", x.letter(0, 1), 99);
        Check.due("letter(0, 2)", x.letter(0, 2), 999);
        Check.due("letter(0, 3)", x.letter(0, 3), 99);
        Check.due("letter(1, 0)", x.letter(1, 0), 1);
        Check.due("letter(1, 1)", x.letter(1, 1), 1);
        Check.due("far(0, 1)", x.far(0, 1), 198);
        Check.due("stone 0", Check.town("stone 0;", 0).told(2), 0);
        Check.due("places without letters", Check.town("place 1 2;place 3 4;", 0).told(0), 2);
    }

    private static void townResets() {
        HeaviestFirst x = Check.town(THREE, 3);
        x.stones(0, 9);
        x.law(2);
        x.seed(77);
        x.came(0);
        x.came(1);
        x.write(1, 4);
        x.keep(0);
        x.keep(1);
        Check.feed(x, "place 1 1;letter 0 4 3 2;");
        Check.due("second town()", x.town(), 1);
        Check.due("told(0)", x.told(0), 1);
        Check.due("told(1)", x.told(1), 1);
        Check.due("C is untold", x.told(2), 1);
        Check.due("LAW stays", x.told(4), 2);
        Check.due("no STONES", x.told(6), 0);
        Check.due("no STONES in 0", x.letter(0, 4), 0);
        Check.due("nothing TOLD", x.told(9), 0);
        Check.due("no BOOK", x.told(10), 0);
        Check.due("IMAGE 0 is gone", x.goBack(0), Check.NOT);
        Check.due("IMAGE 1 is gone", x.goBack(1), Check.NOT);
        Check.due("THE SEED stays", x.seed(0), 77);
        Check.due("empty text: town()", x.town(), 0);
        Check.due("empty text: no PLACES", x.told(0), 0);
        Check.due("empty text: no LETTERS", x.told(1), 0);
        x.price(50);
        Check.due("empty text again", x.town(), 0);
        Check.due("empty text: C", x.told(2), 1);
    }

    private static void faultChangesNothing() {
        HeaviestFirst x = Check.town(THREE, 3);
        x.stones(1, 2);
        x.came(2);
        x.write(1, 4);
        x.keep(1);
        Check.feed(x, "place 1 1;letter 0 4 3 2;stone 7;plac");
        Check.due("faulty town()", x.town(), -11);
        Check.due("faulty fault()", x.fault(), 33);
        // HEAVY 5, 7, 8: the ORDER is 2, 1, 0, they come at 7, 16, 25
        int[] due = {3, 3, 3, 0, 0, 25, 2, 2, 4 - 6, 1, 1};
        for (int what = 0; what < due.length; what++) {
            Check.due("behind a fault told(" + what + ")", x.told(what), due[what]);
        }
        Check.due("the image is there", x.goBack(1), 1);
        Check.due("the other is not", x.goBack(0), Check.NOT);
        Check.due("then an empty text", x.town(), 0);
        Check.due("and no fault", x.fault(), Check.NONE);
    }

    private static void wordsAndBlanks() {
        HeaviestFirst x = Check.town("   place   1   2  ;  letter   0  3   4    5   ;   stone  6  ;  ", 1);
        Check.due("blanks: told(2)", x.told(2), 6);
        x = Check.town("place1 2;letter0 3 4 5;stone6;", 1);
        Check.due("no blank between a word and a NUMBER", x.letter(0, 3), 5);
        x = Check.town("place 007 08;letter 000 01 005 00;stone 09;", 1);
        Check.due("figures 0 ahead", x.place(0, 0), 7);
        Check.due("figures 0 ahead", x.letter(0, 2), 5);
        Check.town("   ", 0);
        Check.town("", 0);
    }

    private static void cannotStand() {
        Check.fault(";", 1, 0);
        Check.fault("5", 1, 0);
        Check.fault(" 1000 ", 1, 1);
        Check.fault("Place 0 0;", 1, 0);
        Check.fault("pla ce 0 0;", 1, 0);
        Check.fault("  pla", 1, 2);
        Check.fault("plaXce 0 0;", 1, 0);
        Check.fault("places 0 0;", 1, 0);
        Check.fault("placestone 5;", 1, 0);
        Check.fault("stones 5;", 1, 0);
        Check.fault("letters 5;", 1, 0);
        Check.fault("place 0 0;;", 1, 10);
        Check.fault("place", 1, 5);
        Check.fault("place  ", 1, 7);
        Check.fault("place;", 1, 5);
        Check.fault("place 1", 1, 7);
        Check.fault("place 1;", 1, 7);
        Check.fault("place 1 ;", 1, 8);
        Check.fault("place 1 2", 1, 9);
        Check.fault("place 1 2  ", 1, 11);
        Check.fault("place 12;", 1, 8);
        Check.fault("place 1 2 3;", 1, 10);
        Check.fault("place 1 2 1000;", 1, 10);
        Check.fault("place 1,2;", 1, 7);
        Check.fault("place -1 2;", 1, 6);
        Check.fault("place 1 place 2 3;", 1, 8);
        Check.fault("place 1 2 place 2 3;", 1, 10);
        Check.fault("place 1 2letter", 1, 9);
        Check.fault("place place 1 2;", 1, 6);
        Check.fault("place 1\n2;", 1, 7);
        Check.fault("place 1\t2;", 1, 7);
        Check.fault("place 1 \0002;", 1, 8);
        Check.fault("place \u00b2 2;", 1, 6);
        Check.fault("place 0 0;letter 0 5 5;", 1, 22);
        Check.fault("place 0 0;letter 0 5;", 1, 20);
        Check.fault("place 0 0;letter 0;", 1, 18);
        Check.fault("place 0 0;letter;", 1, 16);
        Check.fault("place 0 0;letter 0 5 5 5 5;", 1, 25);
        Check.fault("stone;", 1, 5);
        Check.fault("stone", 1, 5);
        Check.fault("stone 1 1;", 1, 8);
        Check.fault("stone 1 stone 1;", 1, 8);
        Check.fault("place:0 0;", 1, 5);
        Check.fault("place 0 0:", 1, 9);
        Check.fault("place /0 0;", 1, 6);
        Check.fault("{place 0 0;", 1, 0);
        Check.fault("`place 0 0;", 1, 0);
        Check.fault("place{0 0;", 1, 5);
    }

    private static void numbers() {
        Check.fault("place 100 0;", 2, 6);
        Check.fault("place 0 100;", 2, 8);
        Check.fault("place 1000 0;", 2, 6);
        Check.fault("place 0000 0;", 2, 6);
        Check.fault("place 0 0001;", 2, 8);
        Check.fault("place 0 4294967296;", 2, 8);
        Check.fault("place 100000000000000000000 0;", 2, 6);
        Check.fault("place 100x", 2, 6);
        Check.fault("place 1000", 2, 6);
        Check.fault("place 100", 2, 6);
        Check.fault("place  100 ;", 2, 7);
        Check.fault("letter 0 1 1 1;", 2, 7);
        Check.fault("place 0 0;letter 1 1 1 1;", 2, 17);
        Check.fault("place 0 0;letter 1 1 1 1;place 0 0;", 2, 17);
        Check.fault("place 0 0;letter 0000 1 1 1;", 2, 17);
        Check.fault("place 0 0;letter 0 0 1 1;", 2, 19);
        Check.fault("place 0 0;letter 0 000 1 1;", 2, 19);
        Check.fault("place 0 0;letter 0 100 1 1;", 2, 19);
        Check.fault("place 0 0;letter 0 1 1000 1;", 2, 21);
        Check.fault("place 0 0;letter 0 1 999 100;", 2, 25);
        Check.fault("place 0 0;letter 0 0 1000 100;", 2, 19);
        Check.fault("stone 100;", 2, 6);
        Check.fault("stone 0001;", 2, 6);
        Check.fault("stone 100;stone", 2, 6);
        Check.town("place 0 0;letter 0 99 999 99;", 1);
        Check.town("place 0 0;letter 0 1 0 0;", 1);
        Check.town("place 99 99;", 0);
        Check.town("stone 99;", 0);
    }

    private static void tooMany() {
        String seven = "place 0 0;".repeat(7);
        Check.due("seven places", Check.town(seven, 0).told(0), 7);
        Check.fault(seven + "place 0 0;", 3, 70);
        Check.fault(seven + " place", 3, 71);
        Check.fault(seven + "placex", 1, 70);
        Check.fault(seven + "place 1000;", 3, 70);
        Check.fault(seven + "letter 7 1 1 1;", 2, 77);
        Check.due("letter to the seventh", Check.town(seven + "letter 6 1 1 1;", 1).letter(0, 0), 6);
        String letters = "place 0 0;" + "letter 0 1 1 1;".repeat(7);
        Check.town(letters, 7);
        Check.fault(letters + "letter 0 1 1 1;", 3, 115);
        Check.fault(letters + "letter", 3, 115);
        Check.fault(letters + "letter ;", 3, 115);
        Check.due("stone behind all", Check.town(letters + "stone 5;", 7).told(2), 5);
        Check.fault("stone 1;stone 1;", 3, 8);
        Check.fault("stone 1; stone", 3, 9);
        Check.fault("stone 1;place 0 0;stone 1;", 3, 18);
        Check.fault("stone 0;stone 0;", 3, 8);
    }

    private static void faultIsTheLatest() {
        HeaviestFirst x = new HeaviestFirst();
        Check.feed(x, "place 0 0; x");
        Check.due("town()", x.town(), -11);
        Check.due("fault()", x.fault(), 11);
        Check.feed(x, "stone 1");
        Check.due("not yet read", x.fault(), 11);
        Check.due("town()", x.town(), -11);
        Check.due("fault()", x.fault(), 7);
        Check.feed(x, "stone 1;stone 1;");
        Check.due("town()", x.town(), -13);
        Check.due("fault()", x.fault(), 8);
        // what an unread draft told is not there the next time
        Check.feed(x, "stone 1;");
        Check.due("town()", x.town(), 0);
        Check.due("fault()", x.fault(), Check.NONE);
    }

    private static void toldAll() {
        HeaviestFirst x = Check.town(THREE, 3);
        x.stones(0, 1);
        x.stones(1, 9);
        x.law(1);
        x.came(2);
        x.came(0);
        x.write(0, 0);
        x.write(0, 0);
        x.write(0, 0);
        Check.feed(x, "pl");
        // HEAVY 6, 14, 8: the ORDER is 0, 2, 1, they come at 7, 7, 16
        int[] due = {3, 3, 3, 2, 1, 16, 10, 1 | 2, 9 + 4 - 30, 2, 3};
        for (int what = 0; what < due.length; what++) {
            Check.due("told(" + what + ")", x.told(what), due[what]);
        }
        Check.due("told(-1)", x.told(-1), Check.OUTSIDE);
        Check.due("told(11)", x.told(11), Check.OUTSIDE);
        Check.due("told(least)", x.told(Integer.MIN_VALUE), Check.OUTSIDE);
        Check.due("told(most)", x.told(Integer.MAX_VALUE), Check.OUTSIDE);
    }

    private static void placesAndFar() {
        HeaviestFirst x = Check.town(THREE, 3);
        Check.due("place(1, 0)", x.place(1, 0), 13);
        Check.due("place(1, 1)", x.place(1, 1), 14);
        Check.due("place(2, 1)", x.place(2, 1), 20);
        Check.due("place(3, 0)", x.place(3, 0), Check.UNKNOWN);
        Check.due("place(-1, 0)", x.place(-1, 0), Check.UNKNOWN);
        Check.due("place(0, 2)", x.place(0, 2), Check.OUTSIDE);
        Check.due("place(0, -1)", x.place(0, -1), Check.OUTSIDE);
        Check.due("place(3, 2)", x.place(3, 2), Check.UNKNOWN);
        int[][] far = {{0, 7, 10}, {7, 0, 9}, {10, 9, 0}};
        for (int p = 0; p < 3; p++) {
            for (int q = 0; q < 3; q++) {
                Check.due("far(" + p + ", " + q + ")", x.far(p, q), far[p][q]);
            }
        }
        Check.due("far(3, 0)", x.far(3, 0), Check.UNKNOWN);
        Check.due("far(0, 3)", x.far(0, 3), Check.UNKNOWN);
        Check.due("far(-1, 0)", x.far(-1, 0), Check.UNKNOWN);
        Check.due("far(0, -1)", x.far(0, -1), Check.UNKNOWN);
    }

    private static void letters() {
        HeaviestFirst x = Check.town(THREE, 3);
        x.stones(1, 2);
        // HEAVY 5, 7, 8: the ORDER is 2, 1, 0 to the PLACES 1, 2, 1
        int[][] due = {
            {1, 5, 7, 9, 0, 5, 2, 25, 0},
            {2, 5, 30, 4, 2, 7, 1, 16, 4 - 6},
            {1, 8, 6, 6, 0, 8, 0, 7, 0},
        };
        for (int l = 0; l < 3; l++) {
            for (int what = 0; what < 9; what++) {
                Check.due("letter(" + l + ", " + what + ")", x.letter(l, what), due[l][what]);
            }
        }
        Check.due("letter(0, 9)", x.letter(0, 9), Check.OUTSIDE);
        Check.due("letter(0, -1)", x.letter(0, -1), Check.OUTSIDE);
        Check.due("letter(3, 0)", x.letter(3, 0), Check.UNKNOWN);
        Check.due("letter(-1, 0)", x.letter(-1, 0), Check.UNKNOWN);
        Check.due("letter(3, 9)", x.letter(3, 9), Check.UNKNOWN);
        // at the very minute at which it is due it is in time; a minute later it is not
        x.law(1);
        x.stones(1, 0);
        Check.due("due at 7, comes at 7", x.letter(0, 8), 9);
        Check.due("told(7)", x.told(7), 1 | 2);
        x = Check.town("place 0 0;place 0 7;letter 1 5 6 9;", 1);
        x.stones(0, 2);
        Check.due("due at 6, comes at 7", x.letter(0, 8), -2);
        Check.due("told(7)", x.told(7), 0);
    }

    private static void rows(HeaviestFirst x, String what, int... due) {
        for (int i = 0; i < due.length; i++) {
            Check.due(what + ": order(" + i + ")", x.order(i), due[i]);
        }
        Check.due(what + ": order behind", x.order(due.length), Check.NONE);
    }

    private static void orders() {
        HeaviestFirst x = Check.town("place 0 0;letter 0 5 1 1;letter 0 9 1 1;letter 0 2 1 1;letter 0 5 1 1;"
                + "letter 0 2 1 1;letter 0 9 1 1;", 6);
        rows(x, "the heaviest first", 1, 5, 0, 3, 2, 4);
        x.law(1);
        rows(x, "the lightest first", 2, 4, 0, 3, 1, 5);
        x.law(2);
        rows(x, "by turns", 1, 2, 5, 4, 0, 3);
        x.stones(3, 1);
        rows(x, "by turns with a stone", 1, 2, 5, 4, 3, 0);
        x.law(0);
        x.stones(4, 9);
        rows(x, "the heaviest first with stones", 4, 1, 5, 3, 0, 2);
        Check.due("order(-1)", x.order(-1), Check.NONE);
        Check.due("order(-2)", x.order(-2), Check.NONE);
        Check.due("order(most)", x.order(Integer.MAX_VALUE), Check.NONE);
    }
}
