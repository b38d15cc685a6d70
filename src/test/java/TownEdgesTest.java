/** Promises 1 to 9 and the text, at the edges that the document names; each under the words that name it. */
public final class TownEdgesTest {
    private static final long EIGHT_BLANKS = 0x2020202020202020L;
    private static final int LEAST = Integer.MIN_VALUE, MOST = Integer.MAX_VALUE;

    public static void main(String[] args) {
        newObject();
        feedTakesOneToEight();
        feedTakesTheLowestBytes();
        textHasFourHundred();
        textOfFourHundredIsRead();
        townEmptiesTheText();
        townBeginsAnew();
        nothingIsLeft();
        eachTextCountsForItself();
        emptyTexts();
        numbersOfClauses();
        figures();
        placeToldAhead();
        bytesThatAreNoSigns();
        words();
        blanks();
        faultsAtTheEnd();
        firstFaultOfSeveral();
        tooMany();
        faultOfTheLatestTown();
        toldAsked();
        toldAtItsLeastAndMost();
        placesAsked();
        lettersAsked();
        farAsked();
        orderAsked();
        office();
        inTime();
        had();
        heavy();
        likeOnes();
        manyCalls();
        Check.end("TownEdgesTest");
    }

    private static void newObject() {
        Check.sentence("Promise 1: No PLACES, no LETTERS.");
        HeaviestFirst x = new HeaviestFirst();
        Check.due("PLACES", x.told(0), 0);
        Check.due("LETTERS", x.told(1), 0);
        for (int what = 0; what < 2; what++) {
            Check.due("place(0)", x.place(0, what), Check.UNKNOWN);
        }
        for (int what = 0; what < 9; what++) {
            Check.due("letter(0)", x.letter(0, what), Check.UNKNOWN);
        }
        Check.due("far(0, 0)", x.far(0, 0), Check.UNKNOWN);
        Check.due("order(0)", x.order(0), Check.NONE);
        Check.due("the WALK", x.told(5), 0);
        Check.due("STONES in all", x.told(6), 0);
        Check.due("IN TIME", x.told(7), 0);
        Check.due("HAD of all", x.told(8), 0);
        Check.sentence("a STONE costs C, 0 .. 99; 1 untold");
        Check.due("C of a new object", x.told(2), 1);
        Check.sentence("LAW 0 (at first)");
        Check.due("LAW of a new object", x.told(4), 0);
        Check.sentence("THE SEED (0 at first");
        Check.due("THE SEED of a new object", x.seed(1), 0);
        Check.sentence("Promise 4: NONE");
        Check.due("FAULT of a new object", x.fault(), Check.NONE);
        Check.sentence("STONES: 0 to 9 in each LETTER (0 at first)");
        x = Check.town(Told.seven(), 7);
        for (int l = 0; l < 7; l++) {
            Check.due("STONES at first", x.letter(l, 4), 0);
        }
    }

    private static void feedTakesOneToEight() {
        Check.sentence("Promise 2: The lowest n bytes (1 .. 8) .. OUTSIDE");
        HeaviestFirst x = new HeaviestFirst();
        int bytes = 0;
        for (int n = 1; n <= 8; n++) {
            bytes += n;
            Check.due("feed(" + n + ")", x.feed(n, EIGHT_BLANKS), bytes);
        }
        for (int n : new int[] {0, 9, -1, -8, 10, LEAST, MOST, 256, 257}) {
            Check.due("feed(" + n + ")", x.feed(n, EIGHT_BLANKS), Check.OUTSIDE);
            Check.due("THE TEXT behind feed(" + n + ")", x.told(3), bytes);
        }
    }

    private static void feedTakesTheLowestBytes() {
        Check.sentence("Promise 2: the highest of these first");
        HeaviestFirst x = new HeaviestFirst();
        // all eight of them, then one of eight, then seven of eight
        x.feed(8, 0x706c616365203132L);
        x.feed(1, 0x3939393939393920L);
        x.feed(7, 0x7833342020203b20L);
        Check.due("town()", x.town(), 0);
        Check.due("place(0, 0)", x.place(0, 0), 12);
        Check.due("place(0, 1)", x.place(0, 1), 34);
        Check.sentence("Promise 2: The lowest n bytes");
        for (int n = 1; n <= 8; n++) {
            x = new HeaviestFirst();
            // the lowest n are blanks, all that is above them could not stand
            x.feed(n, n == 8 ? EIGHT_BLANKS : -1L << 8 * n | EIGHT_BLANKS & ~(-1L << 8 * n));
            Check.due("town() of " + n + " blanks", x.town(), 0);
            x.feed(n, n == 8 ? -1L : ~(-1L << 8 * n) | EIGHT_BLANKS & -1L << 8 * n);
            Check.due("town() of " + n + " times 255", x.town(), -11);
            Check.due("fault()", x.fault(), 0);
            // the lowest byte is the last one
            x.feed(n, EIGHT_BLANKS & -256L | 59);
            Check.due("town() of blanks and ;", x.town(), -11);
            Check.due("fault()", x.fault(), n - 1);
        }
    }

    private static void textHasFourHundred() {
        for (int n = 1; n <= 8; n++) {
            Check.sentence("Promise 2: FULL (400)");
            HeaviestFirst x = new HeaviestFirst();
            int bytes = 0;
            while (bytes + n <= 400) {
                bytes += n;
                Check.due("feed(" + n + ")", x.feed(n, EIGHT_BLANKS), bytes);
            }
            Check.due("feed(" + n + ") at " + bytes, x.feed(n, EIGHT_BLANKS), Check.FULL);
            int left = 400 - bytes;
            Check.due("feed(" + (left + 1) + ") at " + bytes, x.feed(left + 1, EIGHT_BLANKS), Check.FULL);
            Check.due("THE TEXT", x.told(3), bytes);
            if (left > 0) {
                Check.due("feed(" + left + ") at " + bytes, x.feed(left, EIGHT_BLANKS), 400);
            }
            for (int more = 1; more <= 8; more++) {
                Check.due("feed(" + more + ") at 400", x.feed(more, EIGHT_BLANKS), Check.FULL);
            }
            Check.due("THE TEXT", x.told(3), 400);
            Check.sentence("OUTSIDE, FULL: the first in this order");
            Check.due("feed(9) at 400", x.feed(9, EIGHT_BLANKS), Check.OUTSIDE);
            Check.due("feed(0) at 400", x.feed(0, EIGHT_BLANKS), Check.OUTSIDE);
            Check.due("town()", x.town(), 0);
            Check.due("feed(8) behind town()", x.feed(8, EIGHT_BLANKS), 8);
        }
    }

    private static void textOfFourHundredIsRead() {
        Check.sentence("THE TOWN is told in a text (400 bytes at most)");
        String stone = "stone 7;";
        HeaviestFirst x = Check.town(" ".repeat(392) + stone, 0);
        Check.due("C told by the last bytes", x.told(2), 7);
        Check.fault(" ".repeat(399) + ";", 1, 399);
        Check.sentence("(the end at the text's length)");
        Check.fault(" ".repeat(393) + "stone 7", 1, 400);
        Check.fault(" ".repeat(392) + "stone 77", 1, 400);
        Check.fault(" ".repeat(395) + "stone", 1, 400);
        Check.fault(Told.filled("stone 7", 400), 1, 400);
        Check.fault(" ".repeat(396) + "ston", 1, 396);
        Check.fault(" ".repeat(394) + "stone1", 1, 400);
        Check.fault(" ".repeat(391) + "stone 100", 2, 397);
    }

    private static void townEmptiesTheText() {
        Check.sentence("Promise 3: THE TEXT (it is empty then, with a FAULT, too)");
        HeaviestFirst x = Check.town(Told.filled(Told.seven(), 400), 7);
        Check.due("bytes behind a town", x.told(3), 0);
        Check.feed(x, "stone 5; stone 5;");
        Check.due("bytes", x.told(3), 17);
        Check.due("town()", x.town(), -13);
        Check.due("bytes behind a FAULT", x.told(3), 0);
        // nothing of the one text is read with the next one
        Check.feed(x, "stone 6;");
        Check.due("town()", x.town(), 0);
        Check.due("C", x.told(2), 6);
        Check.feed(x, "sto");
        Check.due("town()", x.town(), -11);
        Check.feed(x, "ne 8;");
        Check.due("town()", x.town(), -11);
        Check.due("fault()", x.fault(), 0);
        Check.feed(x, "stone 8;");
        Check.due("town()", x.town(), 0);
        for (int length = 1; length < 5; length++) {
            Check.feed(x, "stone".substring(0, length));
            Check.due("town() of a word cut short", x.town(), -11);
            Check.due("fault() of a word cut short", x.fault(), 0);
        }
    }

    private static void townBeginsAnew() {
        HeaviestFirst x = Check.town(Told.seven() + "stone 9;", 7);
        for (int l = 0; l < 7; l++) {
            x.stones(l, 9 - l);
            x.came(l);
            x.write(l, 10 * l);
        }
        x.law(2);
        x.seed(MOST);
        x.keep(0);
        x.keep(1);
        Check.feed(x, Told.seven());
        Check.sentence("Promise 3: how many LETTERS");
        Check.due("town()", x.town(), 7);
        Check.sentence("Promise 3: no STONES");
        Check.due("STONES in all", x.told(6), 0);
        for (int l = 0; l < 7; l++) {
            Check.due("STONES", x.letter(l, 4), 0);
        }
        Check.sentence("Promise 3: nothing TOLD");
        Check.due("TOLD", x.told(9), 0);
        Check.due("came(6)", x.came(6), 1);
        Check.sentence("Promise 3: no BOOK");
        Check.due("THE BOOK", x.told(10), 0);
        Check.due("judge()", x.judge(), Check.NONE);
        Check.sentence("Promise 3: IMAGES are gone");
        Check.due("goBack(0)", x.goBack(0), Check.NOT);
        Check.due("goBack(1)", x.goBack(1), Check.NOT);
        Check.sentence("Promise 3: LAW, THE SEED stay");
        Check.due("LAW", x.told(4), 2);
        Check.due("THE SEED", x.seed(5), MOST);
        Check.sentence("a STONE costs C, 0 .. 99; 1 untold");
        Check.due("C", x.told(2), 1);
    }

    /** A smaller town behind the greatest one is as it is in a new object. */
    private static void nothingIsLeft() {
        Check.sentence("Promise 3: THE TEXT becomes THE TOWN");
        for (int letters = 0; letters < 7; letters++) {
            for (int law = 0; law <= 2; law++) {
                HeaviestFirst x = Check.town("place 99 99;place 0 0;place 99 0;place 0 99;place 9 9;place 8 8;place 7 7;"
                        + "letter 1 99 999 99;".repeat(7), 7);
                for (int l = 0; l < 7; l++) {
                    x.stones(6 - l, 9);
                    x.came(6 - l);
                    x.write(l, 9 * l);
                }
                x.law(law);
                x.keep(law % 2);
                Check.due("rests(-1)", x.rests(-1), 1);
                Check.due("far along", x.told(5), 198);
                String text = Told.line(3) + Told.letters(letters, 3);
                Check.feed(x, text);
                Check.due("town()", x.town(), letters);
                HeaviestFirst twin = Check.town(text, letters);
                twin.law(law);
                String due = Twin.all(twin);
                String is = Twin.all(x);
                Check.holds(letters + " LETTERS as in a new object: " + Twin.difference(due, is), is.equals(due));
            }
        }
        // PLACE 1 was the office's, and is far off when the LETTER to it is no more
        HeaviestFirst x = Check.town("place 5 5;place 5 5;letter 1 9 9 9;", 1);
        Check.due("the WALK", x.told(5), 0);
        Check.feed(x, "place 5 5;place 90 90;");
        Check.due("town()", x.town(), 0);
        Check.due("the WALK", x.told(5), 0);
        Check.due("two(0)", x.two(0), 0);
        Check.due("two(1)", x.two(1), 0);
    }

    /** What is counted in a text is counted from its beginning, whatever an earlier town had. */
    private static void eachTextCountsForItself() {
        HeaviestFirst x = Check.town(Told.seven() + "stone 9;", 7);
        Check.feed(x, Told.seven() + "stone 8;");
        Check.sentence("7 PLACES at most, 7 LETTERS at most, 'stone' once: in a text");
        Check.due("seven and seven again", x.town(), 7);
        Check.due("C", x.told(2), 8);
        Check.feed(x, "letter 0 1 1 1;");
        Check.sentence("a PLACE that was not told yet: in this text");
        Check.due("a LETTER without PLACES", x.town(), -12);
        Check.due("fault()", x.fault(), 7);
        Check.feed(x, Told.places(7) + Told.letters(7, 7) + "stone 1;stone 1;");
        Check.due("stone twice", x.town(), -13);
        // what a faulty text told does not count either
        Check.feed(x, Told.places(7) + Told.letters(7, 7) + "stone 6;");
        Check.due("seven and seven behind a FAULT", x.town(), 7);
        Check.due("C", x.told(2), 6);
    }

    private static void emptyTexts() {
        Check.sentence("An empty text (or one of blanks alone) has no FAULT.");
        HeaviestFirst x = new HeaviestFirst();
        Check.due("town() of nothing", x.town(), 0);
        Check.due("fault()", x.fault(), Check.NONE);
        for (int bytes : new int[] {1, 2, 8, 399, 400}) {
            x = Check.town(" ".repeat(bytes), 0);
            Check.due("fault() of blanks", x.fault(), Check.NONE);
        }
        x = Check.town(Told.seven() + "stone 5;", 7);
        Check.due("town() of nothing", x.town(), 0);
        Check.due("no PLACES then", x.told(0), 0);
        Check.due("no LETTERS then", x.told(1), 0);
        Check.due("C untold then", x.told(2), 1);
        Check.due("place(0, 0)", x.place(0, 0), Check.UNKNOWN);
        Check.due("letter(0, 0)", x.letter(0, 0), Check.UNKNOWN);
    }

    private static void numbersOfClauses() {
        String one = "place 0 0;letter ";
        number("'place' X .. 0 .. 99 both", "place ", " 0;", 0, 99);
        number("'place' Y .. 0 .. 99 both", "place 0 ", ";", 0, 99);
        number("to PLACE P told ahead (of one)", one, " 1 0 0;", 0, 0);
        number("to PLACE P told ahead (of seven)", Told.places(7) + "letter ", " 1 0 0;", 0, 6);
        number("WEIGHT W 1 .. 99", one + "0 ", " 0 0;", 1, 99);
        number("DUE at minute D, 0 .. 999", one + "0 1 ", " 0;", 0, 999);
        number("WORTH V 0 .. 99", one + "0 1 0 ", ";", 0, 99);
        number("a STONE costs C, 0 .. 99", "stone ", ";", 0, 99);
        Check.sentence("numbers become what they tell");
        HeaviestFirst x = Check.town("place 0 99;place 99 0;letter 1 99 999 99;letter 0 1 0 0;stone 99;", 2);
        int[][] due = {{1, 99, 999, 99}, {0, 1, 0, 0}};
        for (int l = 0; l < 2; l++) {
            for (int what = 0; what < 4; what++) {
                Check.due("letter(" + l + ", " + what + ")", x.letter(l, what), due[l][what]);
            }
        }
        for (int what = 0; what < 2; what++) {
            Check.due("place(0, " + what + ")", x.place(0, what), 99 * what);
            Check.due("place(1, " + what + ")", x.place(1, what), 99 - 99 * what);
        }
        Check.due("C", x.told(2), 99);
        Check.due("stone 0", Check.town("stone 0;", 0).told(2), 0);
    }

    /** A NUMBER at its least and at its greatest, one less and one more; with as many figures as may be, and more. */
    private static void number(String sentence, String ahead, String behind, int least, int greatest) {
        Check.sentence(sentence);
        int at = ahead.length();
        int letters = ahead.contains("letter") ? 1 : 0;
        Check.town(ahead + least + behind, letters);
        Check.town(ahead + greatest + behind, letters);
        Check.town(ahead + String.format("%03d", least) + behind, letters);
        Check.town(ahead + String.format("%03d", greatest) + behind, letters);
        Check.fault(ahead + (greatest + 1) + behind, 2, at);
        if (least > 0) {
            Check.fault(ahead + (least - 1) + behind, 2, at);
        }
        Check.fault(ahead + "1000" + behind, 2, at);
        Check.sentence("2 a NUMBER of four figures or more");
        Check.fault(ahead + String.format("%04d", least) + behind, 2, at);
        Check.fault(ahead + String.format("%04d", greatest) + behind, 2, at);
        Check.fault(ahead + String.format("%030d", least) + behind, 2, at);
        Check.sentence("1 it cannot stand there: where a NUMBER is due");
        for (String other : new String[] {";", "-1", "+1", "x", "place", "stone", ".5"}) {
            Check.fault(ahead + other + behind, 1, at);
        }
    }

    private static void figures() {
        Check.sentence("NUMBERS have one to three figures");
        for (String five : new String[] {"5", "05", "005"}) {
            Check.due("stone " + five, Check.town("stone " + five + ";", 0).told(2), 5);
            HeaviestFirst x = Check.town("place " + five + " " + five + ";letter 000 " + five + " " + five + " "
                    + five + ";", 1);
            Check.due("X of " + five, x.place(0, 0), 5);
            Check.due("Y of " + five, x.place(0, 1), 5);
            Check.due("W of " + five, x.letter(0, 1), 5);
            Check.due("DUE of " + five, x.letter(0, 2), 5);
            Check.due("WORTH of " + five, x.letter(0, 3), 5);
        }
        Check.sentence("2 a NUMBER of four figures or more .. (at its first)");
        Check.fault("stone 0005;", 2, 6);
        Check.fault("stone  00005;", 2, 7);
        Check.fault("stone0005", 2, 5);
        Check.fault("stone 0005x", 2, 6);
        // 2 to the 8, 16, 32, 64 and 5 would be 5 again if figures were counted out too far
        for (String far : new String[] {"261", "65541", "4294967301", "18446744073709551621"}) {
            Check.fault("stone " + far + ";", 2, 6);
        }
        Check.fault("stone " + "9".repeat(394), 2, 6);
        Check.fault("stone " + "0".repeat(393) + "5", 2, 6);
    }

    private static void placeToldAhead() {
        Check.sentence("a PLACE that was not told yet (at its first)");
        Check.fault("letter 0 1 1 1;", 2, 7);
        Check.fault("letter  0 1 1 1;place 0 0;", 2, 8);
        for (int places = 1; places <= 7; places++) {
            String ahead = Told.places(places);
            Check.due("PLACES", Check.town(ahead + "letter " + (places - 1) + " 1 1 1;", 1).told(0), places);
            Check.fault(ahead + "letter " + places + " 1 1 1;", 2, ahead.length() + 7);
            Check.fault(ahead + "letter 10 1 1 1;", 2, ahead.length() + 7);
            if (places < 7) {
                Check.fault(ahead + "letter " + places + " 1 1 1;" + Told.places(1), 2, ahead.length() + 7);
            }
        }
        Check.town("place 0 0;letter 0 1 1 1;place 1 1;letter 1 1 1 1;", 2);
    }

    /** Every byte that there is, at each place of a clause. */
    private static void bytesThatAreNoSigns() {
        Check.sentence("1 it cannot stand there");
        for (int b = 0; b < 256; b++) {
            char sign = (char) b;
            boolean blank = b == 32;
            boolean figure = b >= '0' && b <= '9';
            boolean letter = b >= 'a' && b <= 'z';
            takes(blank, sign + "stone 2;", 0);
            takes(false, "sto" + sign + "ne 2;", 0);
            takes(blank, "stone" + sign + " 2;", letter ? 0 : figure ? 7 : 5);
            takes(blank || figure, "stone" + sign + "2;", letter ? 0 : 5);
            takes(blank || figure, "place 2" + sign + " 3;", 7);
            takes(blank || figure, "stone 2" + sign + ";", b == ';' ? 8 : 7);
            takes(blank, "stone 2;" + sign, 8);
        }
    }

    private static void takes(boolean taken, String text, int where) {
        if (taken) {
            Check.town(text, 0);
        } else {
            Check.fault(text, 1, where);
        }
    }

    private static void words() {
        Check.sentence("1 .. (a word that cannot: at its first letter)");
        for (String word : new String[] {"p", "plac", "placf", "places", "placea", "splace", "lace", "lettes", "lette",
            "letterr", "ston", "stonf", "stones", "a", "z", "placeletter", "stonestone", "letterletter", "zzzzzzzz"}) {
            Check.fault(word + " 0 0;", 1, 0);
            Check.fault("   " + word, 1, 3);
            Check.fault("place 1 2;" + word + ";", 1, 10);
        }
        for (String word : new String[] {"place", "letter", "stone"}) {
            for (int k = 0; k < word.length(); k++) {
                for (char other = 'a'; other <= 'z'; other++) {
                    if (word.charAt(k) != other) {
                        Check.fault(word.substring(0, k) + other + word.substring(k + 1) + " 1 1;", 1, 0);
                    }
                }
            }
        }
        for (String word : new String[] {"place", "letter", "stone", "x"}) {
            Check.fault("place " + word, 1, 6);
            Check.fault("place 1 " + word, 1, 8);
            Check.fault("place 1 2 " + word, 1, 10);
            Check.fault("place 1 2" + word, 1, 9);
        }
        Check.sentence("words are letters a .. z side by side");
        Check.fault("Stone 1;", 1, 0);
        Check.fault("STONE 1;", 1, 0);
        Check.fault("stonE 1;", 1, 0);
        Check.sentence("two words, two NUMBERS side by side need one");
        Check.fault("stonestone 1;", 1, 0);
        Check.fault("place 12;", 1, 8);
        Check.fault("place 0 0;letter 0 1 11;", 1, 23);
        Check.town("place 1 2;", 0);
    }

    private static void blanks() {
        Check.sentence("blanks (32) may stand anywhere but within words and NUMBERS");
        HeaviestFirst x = Check.town("  place  1   2  ;  letter   0  3 4   5 ;  stone   6   ;   ", 1);
        Check.due("C", x.told(2), 6);
        Check.due("V", x.letter(0, 3), 5);
        x = Check.town("place1 2;letter0 3 4 5;stone6;", 1);
        Check.due("C", x.told(2), 6);
        Check.due("V", x.letter(0, 3), 5);
        String clause = "place 31 42;";
        for (int k = 0; k <= clause.length(); k++) {
            String text = clause.substring(0, k) + " " + clause.substring(k);
            if (k >= 1 && k <= 4) {
                Check.fault(text, 1, 0);
            } else if (k == 7) {
                // 3, 1, and then 42 where the clause is to end
                Check.fault(text, 1, 10);
            } else if (k == 10) {
                Check.fault(text, 1, 11);
            } else {
                Check.due("X of '" + text + "'", Check.town(text, 0).place(0, 0), 31);
                Check.due("Y of '" + text + "'", Check.town(text, 0).place(0, 1), 42);
            }
        }
    }

    private static void faultsAtTheEnd() {
        Check.sentence("(the end at the text's length)");
        cutShort("place 1 2;", 5);
        cutShort("stone 3;", 5);
        cutShort("place 1 2;letter 0 1 1 1;", 16);
        Check.sentence("1 .. (a word that cannot: at its first letter): at the end, too");
        Check.fault("plac", 1, 0);
        Check.fault("place 1 2;lette", 1, 10);
        Check.fault(" s ", 1, 1);
        Check.sentence("a NUMBER out of its bounds: at the end, too");
        Check.fault("place 100", 2, 6);
        Check.fault("place 1 100 ", 2, 8);
    }

    /** A clause that ends too early, behind its word or later; what an earlier text had there is gone. */
    private static void cutShort(String clause, int from) {
        for (int length = from; length < clause.length(); length++) {
            String cut = clause.substring(0, length);
            Check.fault(cut, 1, length);
            Check.fault(cut + "   ", 1, length + 3);
            for (String earlier : new String[] {clause, cut + "0", cut + " ", cut + ";", cut + "x"}) {
                HeaviestFirst x = new HeaviestFirst();
                Check.feed(x, earlier);
                x.town();
                Check.feed(x, cut);
                Check.due("town() of '" + cut + "' behind '" + earlier + "'", x.town(), -11);
                Check.due("fault() of '" + cut + "' behind '" + earlier + "'", x.fault(), length);
            }
        }
    }

    private static void firstFaultOfSeveral() {
        Check.sentence("FAULTS, at the first byte that has one");
        Check.fault("place 100 x", 2, 6);
        Check.fault("place x 100", 1, 6);
        Check.fault("place 100 100;", 2, 6);
        Check.fault("place 1 100;stone 1;stone 1;", 2, 8);
        Check.fault("stone 1;stone 100;place x", 3, 8);
        Check.fault("stone 1;stone", 3, 8);
        Check.fault(Told.places(7) + "place x", 3, Told.places(7).length());
        Check.fault("place 0 0;letter 1 0 1000 100;", 2, 17);
        Check.fault("place 0 0;letter 0 0 1000 100;", 2, 19);
        Check.fault("place 0 0;letter 0 1 1000 100;", 2, 21);
        Check.fault("place 0 0;letter 0 1 999 100;", 2, 25);
        Check.fault("x stone 1;stone 1;", 1, 0);
        Check.sentence("of these the least");
        // four figures where none can stand; a word told too often where it cannot stand
        Check.fault("1000", 1, 0);
        Check.fault("place 1 2 1000;", 1, 10);
        Check.fault("stone 1 stone 1;", 1, 8);
        Check.fault("stone 1;place 1 stone 1;", 1, 16);
        Check.fault(Told.places(7) + "stone place 1 1;", 1, Told.places(7).length() + 6);
        Check.fault(Told.seven() + "stone letter 1 1;", 1, Told.seven().length() + 6);
    }

    private static void tooMany() {
        String places = Told.places(7);
        Check.sentence("7 PLACES at most");
        Check.due("seven PLACES", Check.town(places, 0).told(0), 7);
        Check.fault(places + "place 0 0;", 3, places.length());
        Check.sentence("7 LETTERS at most");
        Check.due("seven LETTERS", Check.town(Told.seven(), 7).told(1), 7);
        Check.fault(Told.seven() + "letter 0 1 1 1;", 3, Told.seven().length());
        Check.sentence("'stone' C .. once");
        Check.town("stone 1;", 0);
        Check.fault("stone 1;stone 1;", 3, 8);
        Check.fault("stone 1;" + Told.places(1) + "stone 1;", 3, 8 + Told.places(1).length());
        Check.sentence("3 an eighth PLACE, LETTER, 'stone' again (at its first letter)");
        for (String ahead : new String[] {"", " ", "   "}) {
            for (String behind : new String[] {"", ";", " x", " 1000;", " 0 0;", "100 100;"}) {
                Check.fault(places + ahead + "place" + behind, 3, places.length() + ahead.length());
                Check.fault(Told.seven() + ahead + "letter" + behind, 3, Told.seven().length() + ahead.length());
                Check.fault("stone 1;" + ahead + "stone" + behind, 3, 8 + ahead.length());
            }
        }
        Check.due("seven of both and stone", Check.town(Told.seven() + "stone 4;", 7).told(2), 4);
    }

    private static void faultOfTheLatestTown() {
        HeaviestFirst x = Check.town("  ", 0);
        Check.sentence("Promise 4: of the latest town(); NONE");
        Check.due("fault() of a town", x.fault(), Check.NONE);
        Check.feed(x, "stone 1;x");
        Check.due("fault() ahead of town()", x.fault(), Check.NONE);
        Check.due("town()", x.town(), -11);
        Check.due("fault()", x.fault(), 8);
        Check.due("fault() again", x.fault(), 8);
        Check.feed(x, "place 100");
        Check.due("fault() ahead of town()", x.fault(), 8);
        Check.due("town()", x.town(), -12);
        Check.due("fault()", x.fault(), 6);
        Check.sentence("Promise 4: The place (from 0 on) of the byte");
        Check.feed(x, ";");
        Check.due("town()", x.town(), -11);
        Check.due("fault()", x.fault(), 0);
        Check.due("town() of nothing", x.town(), 0);
        Check.due("fault()", x.fault(), Check.NONE);
    }

    private static void toldAsked() {
        Check.sentence("Promise 5: told(0 .. 10), OUTSIDE");
        for (HeaviestFirst x : new HeaviestFirst[] {new HeaviestFirst(), Check.town(Told.seven(), 7)}) {
            for (int what = 0; what <= 10; what++) {
                Check.holds("told(" + what + ") is told", x.told(what) > Check.UNKNOWN);
            }
            for (int what : new int[] {-1, 11, 12, -2, LEAST, MOST}) {
                Check.due("told(" + what + ")", x.told(what), Check.OUTSIDE);
            }
        }
    }

    private static void toldAtItsLeastAndMost() {
        Check.sentence("Promise 5: what is told, at its most");
        // there and back, seven times 198 minutes
        HeaviestFirst x = Check.town("place 0 0;place 99 99;letter 1 1 0 99;letter 0 1 0 99;letter 1 1 0 99;"
                + "letter 0 1 0 99;letter 1 1 0 99;letter 0 1 0 99;letter 1 1 0 99;stone 99;", 7);
        for (int l = 0; l < 7; l++) {
            x.stones(l, 9);
            x.came(l);
        }
        for (int k = 0; k < 30; k++) {
            x.write(6, 1386);
        }
        int[] due = {2, 7, 99, 0, 0, 7 * 198, 63, 0, -7 * 9 * 99, 7, 30};
        for (int what = 0; what < due.length; what++) {
            Check.due("told(" + what + ")", x.told(what), due[what]);
        }
        Check.due("judge() of the last minute", x.judge(), Check.NONE);
        x = Check.town("place 9 9;letter 0 1 0 99;letter 0 1 0 99;letter 0 1 0 99;letter 0 1 0 99;"
                + "letter 0 1 0 99;letter 0 1 0 99;letter 0 1 0 99;", 7);
        Check.due("all IN TIME", x.told(7), 127);
        Check.due("HAD of all", x.told(8), 7 * 99);
        Check.due("the WALK", x.told(5), 0);
        Check.due("nothing TOLD", x.told(9), 0);
        Check.due("an empty BOOK", x.told(10), 0);
    }

    private static void placesAsked() {
        HeaviestFirst x = Check.town(Told.places(7), 0);
        Check.sentence("Promise 6: UNKNOWN, OUTSIDE");
        for (int p = 0; p < 7; p++) {
            Check.due("X of " + p, x.place(p, 0), 10 + p);
            Check.due("Y of " + p, x.place(p, 1), 20 + p);
            for (int what : new int[] {-1, 2, LEAST, MOST}) {
                Check.due("place(" + p + ", " + what + ")", x.place(p, what), Check.OUTSIDE);
            }
        }
        for (int p : new int[] {-1, 7, LEAST, MOST}) {
            for (int what : new int[] {0, 1, -1, 2}) {
                Check.due("place(" + p + ", " + what + ")", x.place(p, what), Check.UNKNOWN);
            }
        }
        x = Check.town(Told.places(6), 0);
        Check.due("the seventh of six", x.place(6, 0), Check.UNKNOWN);
        Check.due("the sixth of six", x.place(5, 1), 25);
    }

    private static void lettersAsked() {
        HeaviestFirst x = Check.town(Told.seven(), 7);
        Check.sentence("Promise 7: UNKNOWN, OUTSIDE");
        for (int l = 0; l < 7; l++) {
            for (int what = 0; what <= 8; what++) {
                Check.holds("letter(" + l + ", " + what + ") is told", x.letter(l, what) > Check.UNKNOWN);
            }
            for (int what : new int[] {-1, 9, LEAST, MOST}) {
                Check.due("letter(" + l + ", " + what + ")", x.letter(l, what), Check.OUTSIDE);
            }
        }
        for (int l : new int[] {-1, 7, LEAST, MOST}) {
            for (int what : new int[] {0, 8, -1, 9}) {
                Check.due("letter(" + l + ", " + what + ")", x.letter(l, what), Check.UNKNOWN);
            }
        }
        x = Check.town(Told.places(7) + Told.letters(6, 7), 6);
        Check.due("the seventh of six", x.letter(6, 1), Check.UNKNOWN);
        Check.due("the sixth of six", x.letter(5, 1), 25);
        x = Check.town(Told.places(7), 0);
        Check.due("PLACES are no LETTERS", x.letter(0, 0), Check.UNKNOWN);
    }

    private static void farAsked() {
        HeaviestFirst x = Check.town(Told.places(7), 0);
        Check.sentence("Promise 8: UNKNOWN");
        for (int p = 0; p < 7; p++) {
            for (int q = 0; q < 7; q++) {
                Check.due("far(" + p + ", " + q + ")", x.far(p, q), 2 * Math.abs(p - q));
            }
            for (int q : new int[] {-1, 7, LEAST, MOST}) {
                Check.due("far(" + p + ", " + q + ")", x.far(p, q), Check.UNKNOWN);
                Check.due("far(" + q + ", " + p + ")", x.far(q, p), Check.UNKNOWN);
            }
        }
        Check.due("far(7, 7)", x.far(7, 7), Check.UNKNOWN);
        Check.sentence("FAR between PLACES: |X| and |Y| apart together");
        x = Check.town("place 0 99;place 99 0;place 0 0;place 99 99;place 0 99;", 0);
        int[][] due = {{0, 198, 99, 99, 0}, {198, 0, 99, 99, 198}, {99, 99, 0, 198, 99}, {99, 99, 198, 0, 99}};
        for (int p = 0; p < due.length; p++) {
            for (int q = 0; q < 5; q++) {
                Check.due("far(" + p + ", " + q + ")", x.far(p, q), due[p][q]);
                Check.due("far(" + q + ", " + p + ")", x.far(q, p), due[p][q]);
            }
        }
    }

    private static void orderAsked() {
        Check.sentence("Promise 9: NONE: not so many, i below 0");
        for (int letters = 0; letters <= 7; letters++) {
            HeaviestFirst x = Check.town(Told.places(7) + Told.letters(letters, 7), letters);
            for (int i = 0; i < letters; i++) {
                Check.due("order(" + i + ") of " + letters, x.order(i), i);
            }
            for (int i : new int[] {letters, letters + 1, 7, 8, -1, -2, LEAST, MOST}) {
                Check.due("order(" + i + ") of " + letters, x.order(i), Check.NONE);
            }
        }
    }

    private static void office() {
        Check.sentence("PLACE 0 is the office; WALK: from the office at minute 0");
        HeaviestFirst x = Check.town("place 30 40;place 30 41;letter 1 5 0 9;letter 0 9 0 9;letter 1 1 2 9;", 3);
        // to the office itself it is no way, back to it there is none behind the last LETTER
        Check.due("COMES to the office", x.letter(1, 7), 0);
        Check.due("COMES to the next PLACE", x.letter(0, 7), 1);
        Check.due("COMES there again", x.letter(2, 7), 1);
        Check.due("the WALK", x.told(5), 1);
        x.law(1);
        Check.due("by LAW 1 the WALK", x.told(5), 2);
        Check.due("LETTER 0", x.letter(0, 7), 1);
        Check.due("LETTER 1", x.letter(1, 7), 2);
    }

    private static void inTime() {
        Check.sentence("IN TIME: no later than DUE");
        for (int due = 0; due <= 12; due++) {
            HeaviestFirst x = Check.town("place 5 5;place 10 11;letter 1 9 " + due + " 7;", 1);
            Check.due("COMES", x.letter(0, 7), 11);
            Check.due("IN TIME by DUE " + due, x.told(7), due >= 11 ? 1 : 0);
            Check.due("HAD by DUE " + due, x.letter(0, 8), due >= 11 ? 7 : 0);
        }
        Check.sentence("DUE at minute D, 0 .. 999: at both ends");
        Check.due("DUE 0 at the office", Check.town("place 5 5;letter 0 9 0 7;", 1).told(7), 1);
        Check.due("DUE 0 a minute away", Check.town("place 5 5;place 5 6;letter 1 9 0 7;", 1).told(7), 0);
        // five times 198 and 9 or 10 more
        String far = "place 0 0;place 99 99;place 9%d 99;letter 1 9 999 1;letter 0 9 999 1;letter 1 9 999 1;"
                + "letter 0 9 999 1;letter 1 9 999 1;letter 2 9 999 1;";
        HeaviestFirst x = Check.town(String.format(far, 0), 6);
        Check.due("COMES", x.letter(5, 7), 999);
        Check.due("at 999 all", x.told(7), 63);
        x = Check.town(String.format(far, 0).replace("90 99", "89 99"), 6);
        Check.due("COMES", x.letter(5, 7), 1000);
        Check.due("at 1000 all but it", x.told(7), 31);
    }

    private static void had() {
        Check.sentence("HAD of a LETTER: WORTH, if IN TIME, else 0, less C for each STONE");
        String text = "place 0 0;place 0 9;letter 1 5 9 99;letter 0 4 8 99;letter 0 3 9 0;stone %d;";
        for (int c : new int[] {0, 1, 98, 99}) {
            for (int n : new int[] {0, 1, 8, 9}) {
                HeaviestFirst x = Check.town(String.format(text, c), 3);
                x.stones(0, n);
                x.stones(1, n);
                x.stones(2, n);
                // 0 is there just in time, 1 and 2 at minute 18 are late
                Check.due("IN TIME", x.letter(0, 8), 99 - c * n);
                Check.due("late", x.letter(1, 8), -c * n);
                Check.due("late and worth nothing", x.letter(2, 8), -c * n);
                Check.due("of all", x.told(8), 99 - 3 * c * n);
            }
        }
    }

    private static void heavy() {
        Check.sentence("HEAVY: W and STONES");
        HeaviestFirst x = Check.town("place 0 0;letter 0 99 9 9;letter 0 1 9 9;", 2);
        for (int n = 0; n <= 9; n++) {
            x.stones(0, n);
            x.stones(1, n);
            Check.due("W stays", x.letter(0, 1), 99);
            Check.due("HEAVY of 99 and " + n, x.letter(0, 5), 99 + n);
            Check.due("HEAVY of 1 and " + n, x.letter(1, 5), 1 + n);
        }
    }

    private static void likeOnes() {
        Check.sentence("of like ones (by each law) the least LETTER");
        String like = "place 0 0;" + "letter 0 5 9 9;".repeat(7);
        for (int law = 0; law <= 2; law++) {
            HeaviestFirst x = Check.town(like, 7);
            x.law(law);
            for (int i = 0; i < 7; i++) {
                Check.due("by LAW " + law + " order(" + i + ")", x.order(i), i);
                Check.due("by LAW " + law + " its place", x.letter(i, 6), i);
            }
        }
        Check.sentence("LAW 2: by turns the heaviest, the lightest of those left, the heaviest first");
        for (int letters = 1; letters <= 7; letters++) {
            // told the heaviest first, so by turns from both ends
            HeaviestFirst x = Check.town(Told.places(7) + Told.letters(letters, 7), letters);
            x.law(2);
            for (int i = 0; i < letters; i++) {
                Check.due("of " + letters + " order(" + i + ")", x.order(i), i % 2 == 0 ? i / 2 : letters - 1 - i / 2);
            }
        }
    }

    private static void manyCalls() {
        Check.sentence("An object is used for at most 512 calls after it has been made");
        // a STONE put in and taken out again, up to the last call
        HeaviestFirst x = new HeaviestFirst();
        String text = "place 0 0;place 5 5;letter 1 3 9 9;letter 0 4 9 9;";
        for (char c : text.toCharArray()) {
            x.feed(1, c);
        }
        Check.due("town()", x.town(), 2);
        int calls = text.length() + 1;
        for (int n = 0; calls < 511; n++) {
            Check.due("call " + ++calls, x.stones(0, (n + 1) % 10), n % 10);
        }
        Check.due("the 512th call", x.told(6), (511 - text.length() - 1) % 10);
    }
}
