/** The document's "Terms" from their first word to their last one, each sentence with answers of its own. */
public final class TermsTest {
    private static final String PLACES = "place 0 0;place 5 0;place 0 9;place 5 9;";
    /** In the ORDER 1, 2, 0: 9, 14, 23 minutes; the other ways round are 0 1 2: 24, 0 2 1: 19, 1 0 2: 32, 2 0 1: 37, 2 1 0: 33. */
    private static final String TOWN = PLACES + "letter 1 20 6 9;letter 2 23 40 7;letter 3 21 20 8;stone 2;";

    private static Document terms;

    public static void main(String[] args) throws Exception {
        terms = new Document("## Terms", "Ahead of the calls `feed`");
        numbers();
        refusals();
        clauses();
        grammar();
        faults();
        laws();
        walks();
        tried();
        senders();
        restsAndPrices();
        agreedOnes();
        toldOnes();
        postmenAndBook();
        draws();
        images();
        terms.end();
        Check.end("TermsTest");
    }

    private static HeaviestFirst town() {
        return Check.town(TOWN, 3);
    }

    private static void orderIs(HeaviestFirst x, int... order) {
        for (int i = 0; i < order.length; i++) {
            Check.due("order(" + i + ")", x.order(i), order[i]);
        }
        Check.due("order behind", x.order(order.length), Check.NONE);
    }

    private static void good(String text, int letters) {
        HeaviestFirst x = Check.town(text, letters);
        Check.due("fault() of '" + text + "'", x.fault(), Check.NONE);
    }

    private static void numbers() {
        HeaviestFirst x = town();
        terms.heads("## Terms Words in capitals are told where they come first.");
        terms.says("All numbers are whole; / cuts towards 0.");
        // the seed becomes 14 * 65536 + 11 and more: cut, not rounded
        x.seed(1);
        x.drift(1);
        long seed = (1L * 1103515245 + 12345) % 2147483648L;
        Check.due("W of the first DRAW", x.letter(0, 1), seed / 65536 % 99 + 1);
        Check.holds("it was cut", seed % 65536 != 0);
        terms.says("What has a number has it from 0 on, as it comes.");
        x = town();
        Check.due("X of PLACE 1", x.place(1, 0), 5);
        Check.due("Y of PLACE 2", x.place(2, 1), 9);
        Check.due("W of LETTER 0", x.letter(0, 1), 20);
        Check.due("W of LETTER 2", x.letter(2, 1), 21);
        terms.says("A SET is a whole number, bit k for k (of LETTERS, if nothing else is told).");
        Check.due("LETTERS 1, 2 IN TIME", x.told(7), 1 << 1 | 1 << 2);
        Check.due("0 and 2 agree on 21", x.agreed(1 << 0 | 1 << 2, 1), 2);
        terms.says("NONE is -1.");
        Check.due("NONE", HeaviestFirst.NONE, -1);
        Check.due("no fourth LETTER", x.order(3), -1);
    }

    private static void refusals() {
        HeaviestFirst x = town();
        terms.says("REFUSALS, of several the first in this order:");
        Check.due("no PLACE, no such what", x.place(4, 2), Check.UNKNOWN);
        Check.due("no LETTER, too many STONES", x.stones(3, 10), Check.UNKNOWN);
        Check.due("no such what, one would need more than 9", Check.town(PLACES + "letter 1 1 1 1;letter 1 11 1 1;", 2).agreed(3, 2), Check.OUTSIDE);
        Check.due("no such n, no LETTERS", new HeaviestFirst().drift(0), Check.OUTSIDE);
        terms.says("UNKNOWN (a PLACE, LETTER, IMAGE that there is not; bits of such),");
        Check.due("PLACE 4", x.far(0, 4), -1000000001);
        Check.due("PLACE -1", x.far(-1, 0), -1000000001);
        Check.due("LETTER 3", x.answer(3), -1000000001);
        Check.due("IMAGE 2", x.keep(2), -1000000001);
        Check.due("IMAGE -1", x.goBack(-1), -1000000001);
        Check.due("bit 3", x.agreed(8, 0), -1000000001);
        Check.due("all bits", x.agreed(-1, 0), -1000000001);
        terms.says("OUTSIDE (another number out of its bounds),");
        Check.due("told(11)", x.told(11), -1000000002);
        Check.due("law(-1)", x.law(-1), -1000000002);
        Check.due("seed(-1)", x.seed(-1), -1000000002);
        terms.says("NOT (not now, as told),");
        Check.due("goBack(0)", x.goBack(0), -1000000003);
        x.law(2);
        Check.due("ends by LAW 2", x.ends(0, 0), -1000000003);
        x.law(0);
        terms.says("FULL.");
        for (int entry = 1; entry <= 30; entry++) {
            Check.due("write", x.write(0, entry), entry);
        }
        Check.due("write", x.write(0, 0), -1000000004);
        terms.says("They are far below all that is counted: -1000000001 and on.");
        Check.due("UNKNOWN", HeaviestFirst.UNKNOWN, -1000000001);
        Check.due("OUTSIDE", HeaviestFirst.OUTSIDE, -1000000002);
        Check.due("NOT", HeaviestFirst.NOT, -1000000003);
        Check.due("FULL", HeaviestFirst.FULL, -1000000004);
        terms.says("What is refused changes nothing.");
        Check.due("stones(0, 10)", x.stones(0, 10), Check.OUTSIDE);
        Check.due("STONES in 0", x.letter(0, 4), 0);
        Check.due("law(3)", x.law(3), Check.OUTSIDE);
        Check.due("LAW", x.told(4), 0);
        Check.due("write(0, 1)", x.write(0, 1), Check.FULL);
        Check.due("entries", x.told(10), 30);
    }

    private static void clauses() {
        terms.says("1 THE TOWN is told in a text (400 bytes at most): clauses:");
        HeaviestFirst x = new HeaviestFirst();
        Check.feed(x, Told.filled("place 0 0;letter 0 1 1 1;", 400));
        Check.due("one byte more", x.feed(1, ' '), Check.FULL);
        Check.due("town()", x.town(), 1);
        terms.says("'place' X Y ';' (7 PLACES at most: 0 .. 99 both;");
        good("place 0 99;place 99 0;" + "place 5 5;".repeat(5), 0);
        Check.fault("place 5 5;".repeat(7) + "place 5 5;", 3, 70);
        Check.fault("place 100 0;", 2, 6);
        Check.fault("place 0 100;", 2, 8);
        Check.fault("place 0;", 1, 7);
        Check.fault("place 0 0 0;", 1, 10);
        Check.fault("place 0 0", 1, 9);
        terms.says("PLACE 0 is the office)");
        Check.due("from PLACE 0 to 1", Check.town("place 90 0;place 0 0;letter 1 1 1 1;", 1).told(5), 90);
        terms.says("'letter' P W D V ';' (7 LETTERS at most:");
        good("place 0 0;" + "letter 0 1 0 0;".repeat(7), 7);
        Check.fault("place 0 0;" + "letter 0 1 0 0;".repeat(8), 3, 10 + 7 * 15);
        Check.fault("place 0 0;letter 0 1 0;", 1, 22);
        Check.fault("place 0 0;letter 0 1 0 0 0;", 1, 25);
        terms.says("to PLACE P told ahead;");
        good("place 0 0;letter 0 1 0 0;place 1 1;letter 1 1 0 0;", 2);
        Check.fault("place 0 0;letter 1 1 0 0;place 1 1;", 2, 17);
        Check.fault("letter 0 1 0 0;place 1 1;", 2, 7);
        terms.says("WEIGHT W 1 .. 99;");
        good("place 0 0;letter 0 1 0 0;letter 0 99 0 0;", 2);
        Check.fault("place 0 0;letter 0 0 0 0;", 2, 19);
        Check.fault("place 0 0;letter 0 100 0 0;", 2, 19);
        terms.says("DUE at minute D, 0 .. 999;");
        good("place 0 0;letter 0 1 999 0;letter 0 1 0 0;", 2);
        Check.fault("place 0 0;letter 0 1 1000 0;", 2, 21);
        terms.says("WORTH V 0 .. 99, if it is there by then)");
        x = Check.town("place 0 0;place 5 0;letter 0 9 0 99;letter 1 8 5 99;letter 0 7 9 99;letter 0 6 99 0;", 4);
        Check.due("there at 0, DUE at 0", x.letter(0, 8), 99);
        Check.due("there at 5, DUE at 5", x.letter(1, 8), 99);
        Check.due("there at 10, DUE at 9", x.letter(2, 8), 0);
        Check.due("WORTH 0", x.letter(3, 8), 0);
        Check.fault("place 0 0;letter 0 1 0 100;", 2, 23);
        terms.says("'stone' C ';' (a STONE costs C, 0 .. 99; 1 untold; once).");
        Check.due("stone 0", Check.town("stone 0;", 0).told(2), 0);
        Check.due("stone 99", Check.town("stone 99;", 0).told(2), 99);
        Check.due("untold", Check.town(PLACES, 0).told(2), 1);
        Check.due("no text yet", new HeaviestFirst().told(2), 1);
        Check.fault("stone 100;", 2, 6);
        Check.fault("stone 1;stone 1;", 3, 8);
    }

    private static void grammar() {
        terms.says("NUMBERS have one to three figures;");
        good("place 7 07;place 007 099;letter 001 001 999 000;", 1);
        Check.fault("place 0007 1;", 2, 6);
        terms.says("words are letters a .. z side by side;");
        Check.fault("Place 1 1;", 1, 0);
        Check.fault("places 1 1;", 1, 0);
        Check.fault("pla`e 1 1;", 1, 0);
        Check.fault("stonez 1;", 1, 0);
        terms.says("blanks (32) may stand anywhere but within words and NUMBERS;");
        good("  place  1   2 ;  place 3 4  ; stone 5   ;  ", 0);
        Check.fault("pl ace 1 1;", 1, 0);
        Check.fault("place 1 1 1;", 1, 10);
        Check.fault("place\t1 1;", 1, 5);
        Check.fault("place 1 1;\n", 1, 10);
        terms.says("two words, two NUMBERS side by side need one.");
        Check.fault("place 12;", 1, 8);
        Check.fault("placeplace 1 2;", 1, 0);
        good("place 1 2;", 0);
        terms.says("An empty text (or one of blanks alone) has no FAULT.");
        good("", 0);
        good(" ", 0);
        good(" ".repeat(400), 0);
    }

    private static void faults() {
        terms.says("FAULTS, at the first byte that has one (the end at the text's length), of these the least:");
        Check.fault("place 100 x;", 2, 6);
        Check.fault("place x 100;", 1, 6);
        Check.fault("stone 1", 1, 7);
        Check.fault("stone 1  ", 1, 9);
        Check.fault("1000;", 1, 0);
        Check.fault("stone 1;stonestone 1;", 1, 8);
        terms.says("1 it cannot stand there (a word that cannot: at its first letter).");
        Check.fault(";", 1, 0);
        Check.fault("stone 1;;", 1, 8);
        Check.fault("stone stone 1;", 1, 6);
        Check.fault("place 1 2 abc;", 1, 10);
        Check.fault("xyz", 1, 0);
        terms.says("2 a NUMBER of four figures or more, or out of its bounds;");
        Check.fault("stone 0001;", 2, 6);
        Check.fault("stone 12345", 2, 6);
        Check.fault("stone 100", 2, 6);
        terms.says("a PLACE that was not told yet (at its first).");
        Check.fault("place 0 0;place 0 0;letter 12 1 1 1;", 2, 27);
        terms.says("3 an eighth PLACE, LETTER, 'stone' again (at its first letter).");
        Check.fault("place 1 1;".repeat(7) + " place 100 1;", 3, 71);
        Check.fault("place 0 0;" + "letter 0 1 0 0;".repeat(7) + "letter", 3, 10 + 7 * 15);
        Check.fault("stone 1; stone x", 3, 9);
    }

    private static void laws() {
        HeaviestFirst x = town();
        terms.says("2 STONES: 0 to 9 in each LETTER (0 at first), each makes it heavier by 1: HEAVY: W and STONES.");
        Check.due("at first", x.told(6), 0);
        Check.due("stones(0, 9)", x.stones(0, 9), 0);
        Check.due("stones(0, 10)", x.stones(0, 10), Check.OUTSIDE);
        Check.due("HEAVY", x.letter(0, 5), 29);
        Check.due("HEAVY of another", x.letter(1, 5), 23);
        orderIs(x, 0, 1, 2);
        x = town();
        terms.says("LAW 0 (at first): the heaviest first;");
        Check.due("LAW", x.told(4), 0);
        orderIs(x, 1, 2, 0);
        terms.says("LAW 1: the lightest first;");
        Check.due("law(1)", x.law(1), 0);
        orderIs(x, 0, 2, 1);
        terms.says("LAW 2: by turns the heaviest, the lightest of those left, the heaviest first;");
        Check.due("law(2)", x.law(2), 1);
        orderIs(x, 1, 0, 2);
        terms.says("of like ones (by each law) the least LETTER.");
        x = Check.town(PLACES + "letter 1 5 9 9;letter 1 7 9 9;letter 1 5 9 9;letter 1 7 9 9;", 4);
        orderIs(x, 1, 3, 0, 2);
        x.law(1);
        orderIs(x, 0, 2, 1, 3);
        x.law(2);
        orderIs(x, 1, 0, 3, 2);
        terms.says("ORDER: LETTERS one behind the other by LAW.");
        orderIs(town(), 1, 2, 0);
        orderIs(new HeaviestFirst());
    }

    private static void walks() {
        HeaviestFirst x = town();
        terms.says("FAR between PLACES: |X| and |Y| apart together, a minute each.");
        Check.due("far(1, 2)", x.far(1, 2), 5 + 9);
        Check.due("far(2, 1)", x.far(2, 1), 5 + 9);
        Check.due("far(3, 3)", x.far(3, 3), 0);
        terms.says("WALK: from the office at minute 0 to the PLACE of each LETTER in ORDER: how many minutes;");
        Check.due("the WALK", x.told(5), 9 + 5 + 9);
        x.law(1);
        Check.due("the WALK", x.told(5), 5 + 9 + 5);
        Check.due("without LETTERS", new HeaviestFirst().told(5), 0);
        x.law(0);
        terms.says("COMES: the minute at which a LETTER is there;");
        Check.due("1", x.letter(1, 7), 9);
        Check.due("2", x.letter(2, 7), 9 + 5);
        Check.due("0", x.letter(0, 7), 9 + 5 + 9);
        terms.says("IN TIME: no later than DUE.");
        Check.due("at its minute", Check.town(PLACES + "letter 2 5 9 1;", 1).told(7), 1);
        Check.due("a minute late", Check.town(PLACES + "letter 2 5 8 1;", 1).told(7), 0);
        terms.says("HAD of a LETTER: WORTH, if IN TIME, else 0, less C for each STONE.");
        x.stones(0, 2);
        x.stones(1, 1);
        Check.due("late, 2 STONES", x.letter(0, 8), 0 - 2 * 2);
        Check.due("in time, 1 STONE", x.letter(1, 8), 7 - 2);
        // in the ORDER 1, 0, 2 now: 2 comes at 32 and is late
        Check.due("all", x.told(8), -4 + 5 + 0);
    }

    private static void triedIs(HeaviestFirst x, int walk, int stones, int... order) {
        Check.due("shortest(-1)", x.shortest(-1), walk);
        Check.due("shortest(-2)", x.shortest(-2), stones);
        for (int i = 0; i < order.length; i++) {
            Check.due("shortest(" + i + ")", x.shortest(i), order[i]);
        }
    }

    private static void inTimeIs(HeaviestFirst x, int stones, int walk, int... order) {
        Check.due("inTime(-1)", x.inTime(-1), stones);
        Check.due("inTime(-2)", x.inTime(-2), walk);
        for (int i = 0; i < order.length; i++) {
            Check.due("inTime(" + i + ")", x.inTime(i), order[i]);
        }
    }

    private static void tried() {
        HeaviestFirst x = town();
        terms.says("3 TRIED (by LAW 0 or 1): STONES in all LETTERS in place of those there, so that some ORDER comes of it:");
        triedIs(x, 19, 7, 0, 2, 1);
        x.stones(1, 9);
        x.stones(2, 3);
        triedIs(x, 19, 7, 0, 2, 1);
        x.law(1);
        triedIs(x, 19, 0, 0, 2, 1);
        x.law(2);
        Check.due("by LAW 2", x.shortest(-1), Check.NOT);
        terms.says("for an ORDER the fewest STONES together (by LAW 0 from the last LETTER on, by LAW 1 from the first one on, each as few as may be);");
        // 1 at 23, 2 at 24, 0 at 24
        triedIs(town(), 19, 0 + 3 + 4, 0, 2, 1);
        // 0 at 23, 2 at 23, 1 at 24
        x = Check.town(PLACES + "letter 1 23 6 9;letter 2 20 40 7;letter 3 21 20 8;", 3);
        x.law(1);
        triedIs(x, 19, 0 + 2 + 4, 0, 2, 1);
        terms.says("it cannot be, if one would need more than 9.");
        triedIs(Check.town(PLACES + "letter 1 14 6 9;letter 2 22 40 7;", 2), 5 + 14, 8, 0, 1);
        triedIs(Check.town(PLACES + "letter 1 13 6 9;letter 2 22 40 7;", 2), 5 + 14, 9, 0, 1);
        triedIs(Check.town(PLACES + "letter 1 12 6 9;letter 2 22 40 7;", 2), 9 + 14, 0, 1, 0);
        terms.says("SHORTEST: of all ORDERS that STONES can bring about that of the least WALK, of like ones of the fewest STONES, then the first (LETTER by LETTER as they come the lesser one).");
        triedIs(Check.town("place 50 0;place 40 0;place 60 0;letter 1 5 99 1;letter 2 6 99 1;", 2), 30, 0, 1, 0);
        // 1, 3, 0, 2 and 3, 0, 2, 1 are 70 minutes of 12 STONES both
        triedIs(Check.town("place 0 0;place 10 0;place 20 0;place 30 0;place 40 0;"
                + "letter 4 9 20 1;letter 1 7 70 1;letter 3 5 70 1;letter 0 1 90 1;", 4), 70, 12, 1, 3, 0, 2);
        terms.says("ALL IN TIME: of those by which all are IN TIME that of the fewest STONES, then of the least WALK, then the first;");
        inTimeIs(town(), 7, 19, 0, 2, 1);
        // 23 minutes by no STONES go ahead of 19 by 7
        inTimeIs(Check.town(TOWN.replace("20 6 9", "20 23 9"), 3), 0, 23, 1, 2, 0);
        String line = "place 0 0;place 10 0;place 20 0;place 30 0;place 40 0;";
        // one STONE in 1 brings about 0, 1, 2 of 20 minutes, one in 2 brings about 2, 0, 1 of 10
        inTimeIs(Check.town(line + "letter 1 8 60 1;letter 1 7 20 1;letter 0 8 30 1;", 3), 1, 10, 2, 0, 1);
        // one STONE in 3 brings about 1, 2, 3, 0, one in 1 brings about 3, 1, 2, 0, both of 40 minutes
        x = Check.town(line + "letter 0 8 40 1;letter 1 5 70 1;letter 2 6 50 1;letter 0 5 80 1;", 4);
        x.law(1);
        inTimeIs(x, 1, 40, 1, 2, 3, 0);
        terms.says("NONE.");
        inTimeIs(Check.town(TOWN.replace("20 6 9", "20 4 9"), 3), Check.NONE, Check.NONE, Check.NONE);
    }

    private static void senders() {
        HeaviestFirst x = town();
        terms.says("BEST ANSWER of a LETTER's sender: STONES in it, 0 to 9, by which its HAD is greatest, all others as they are;");
        // ahead of 23 it is at 23, the lesser LETTER: 9 - 3 * 2
        Check.due("answer(0)", x.answer(0), 3);
        x.stones(0, 9);
        Check.due("its own STONES do not count", x.answer(0), 3);
        x.stones(1, 1);
        Check.due("the others' do", x.answer(0), 4);
        x.stones(1, 2);
        Check.due("9 - 5 * 2 is less than 0", x.answer(0), 0);
        Check.due("9 STONES", Check.town(PLACES + "letter 1 5 5 99;letter 2 14 99 1;", 2).answer(0), 9);
        Check.due("10 cannot be", Check.town(PLACES + "letter 1 4 5 99;letter 2 14 99 1;", 2).answer(0), 0);
        terms.says("of like ones the fewest.");
        x = town();
        x.price(0);
        Check.due("3 to 9 are alike", x.answer(0), 3);
        x.price(3);
        Check.due("9 - 3 * 3 is as good as none", x.answer(0), 0);
        Check.due("in time by any", x.answer(1), 0);
    }

    private static void restsIs(HeaviestFirst x, int... due) {
        for (int k = 0; k < due.length; k++) {
            int l = k < 3 ? -1 - k : k - 3;
            Check.due("rests(" + l + ")", x.rests(l), due[k]);
        }
    }

    private static HeaviestFirst withStones(String text, int... stones) {
        HeaviestFirst x = Check.town(text, stones.length);
        for (int l = 0; l < stones.length; l++) {
            x.stones(l, stones[l]);
        }
        return x;
    }

    private static void restsAndPrices() {
        terms.says("RESTS: rounds in which all senders in order take their BEST ANSWERS, from STONES as they are, till a round changes nothing (30 rounds at most):");
        // 0 takes 3, then 2 sees it and takes 3; 0 takes 4 to be ahead of it
        HeaviestFirst x = town();
        restsIs(x, 2, 10, 19, 4, 0, 3);
        // from there nothing changes
        x.stones(0, 4);
        x.stones(2, 3);
        restsIs(x, 0, 10, 19, 4, 0, 3);
        // behind 9 in 1 none of the others can gain, so it takes them out again and the round after that is the first
        x = town();
        x.stones(1, 9);
        restsIs(x, 3, 10, 19, 4, 0, 3);
        // a long way, found by search: the thirtieth round changes nothing
        String longWay = "place 39 65;place 77 55;place 1 47;place 47 12;place 60 58;place 58 82;place 83 69;"
                + "letter 3 2 204 43;letter 2 2 370 59;letter 2 3 244 72;letter 4 11 464 69;letter 2 3 642 82;"
                + "letter 0 3 288 89;letter 6 3 223 57;stone 1;";
        Check.due("29 rounds", withStones(longWay, 9, 9, 4, 8, 2, 9, 9).rests(-1), 29);
        // and a longer one: the thirtieth still changes something
        String longer = "place 95 60;place 10 83;place 61 75;place 42 98;place 1 33;place 67 8;place 93 14;"
                + "letter 3 5 515 12;letter 0 7 124 89;letter 2 4 504 92;letter 4 5 319 29;letter 6 5 364 46;"
                + "letter 3 6 164 51;letter 1 6 482 22;stone 1;";
        Check.due("30 rounds", withStones(longer, 4, 9, 9, 7, 8, 7, 7).rests(-1), Check.NONE);
        terms.says("how many changed something;");
        x = town();
        x.price(99);
        Check.due("none", x.rests(-1), 0);
        x.stones(2, 1);
        Check.due("one: 2 takes its own out", x.rests(-1), 1);
        terms.says("STONES then, HAD of all together, the WALK;");
        restsIs(x, 1, 15, 23, 0, 0, 0);
        Check.due("STONES stay as they are", x.told(6), 1);
        terms.says("NONE: never.");
        x = Check.town("place 50 0;place 10 0;place 90 0;letter 1 4 40 20;letter 2 4 40 20;stone 1;", 2);
        restsIs(x, Check.NONE, Check.NONE, Check.NONE, Check.NONE, Check.NONE);
        terms.says("BEST PRICE: of C from 0 to 20 that by which the WALK at RESTS is least (prices without RESTS are passed over);");
        Check.due("no rest till a STONE costs what it is worth", x.best(), 20);
        // 3 STONES make 0 first and the WALK 90 minutes long, none 60: from 12 on it takes none
        x = Check.town("place 50 0;place 90 0;place 40 0;letter 1 5 40 36;letter 2 8 99 5;stone 50;", 2);
        Check.due("the WALK is less from 12 on", x.best(), 12);
        Check.due("C stays", x.told(2), 50);
        terms.says("of like ones the least;");
        Check.due("all are alike", Check.town(PLACES + "letter 1 5 99 9;", 1).best(), 0);
        terms.says("NONE.");
        Check.due("no rest", Check.town("place 50 0;place 10 0;place 90 0;letter 1 4 40 21;letter 2 4 40 21;stone 1;", 2).best(), Check.NONE);
    }

    private static void agreedOnes() {
        HeaviestFirst x = town();
        terms.says("AGREED: a SET of LETTERS all get as many STONES as make them as HEAVY as the heaviest of them is now: by how much the WALK is less (below 0: longer);");
        Check.due("0, 1, 2 at 23: 24 minutes", x.agreed(7, 0), 23 - 24);
        Check.due("0, 2 at 21: 1 0 2", x.agreed(5, 0), 23 - 32);
        Check.due("1, 2 at 23", x.agreed(6, 0), 0);
        Check.due("1 alone", x.agreed(2, 0), 0);
        // 2 at 25, then 0 with it: 0 2 1
        x.stones(2, 4);
        Check.due("2 1 0 now", x.told(5), 33);
        Check.due("0, 2 at 25", x.agreed(5, 0), 33 - 19);
        Check.due("nothing is done", x.told(6), 4);
        terms.says("what these STONES cost more than those that they have (C for each; none has fewer then).");
        Check.due("5 in 0", x.agreed(5, 1), 5 * 2);
        Check.due("5 in 0, 2 in 1", x.agreed(7, 1), 7 * 2);
        x.stones(0, 3);
        Check.due("2 more in 0", x.agreed(5, 1), 2 * 2);
        Check.due("2 alone keeps its 4", x.agreed(4, 1), 0);
    }

    private static void toldOnes() {
        HeaviestFirst x = town();
        terms.says("TOLD: LETTERS in the order in which they came (each once).");
        Check.due("came(1)", x.came(1), 1);
        Check.due("came(0)", x.came(0), 2);
        Check.due("came(1)", x.came(1), Check.NOT);
        Check.due("two are TOLD", x.told(9), 2);
        Check.due("came(2)", x.came(2), 3);
        terms.says("ENDS of a LETTER's HEAVY (LAW 0 or 1), all other ones as they are: the least, the greatest from 1 to 108 by which the ORDER is TOLD;");
        // 1 at 23, 2 at 21: 0 as heavy as 2 is ahead of it, as heavy as 1 it is, too
        Check.due("ends(0, 0)", x.ends(0, 0), 21);
        Check.due("ends(0, 1)", x.ends(0, 1), 22);
        x.stones(1, 2);
        Check.due("ends(0, 1) behind 25", x.ends(0, 1), 24);
        x.stones(0, 4);
        Check.due("ends(1, 0) ahead of 24", x.ends(1, 0), 25);
        Check.due("ends(1, 1)", x.ends(1, 1), 108);
        Check.due("ends(2, 0)", x.ends(2, 0), 1);
        Check.due("ends(2, 1) behind 24", x.ends(2, 1), 24);
        terms.says("NONE: there is none, or not all LETTERS are TOLD.");
        x.law(1);
        Check.due("by LAW 1", x.ends(0, 0), Check.NONE);
        Check.due("by LAW 1", x.ends(0, 1), Check.NONE);
        x.law(0);
        x.tear();
        x.came(1);
        x.came(0);
        Check.due("2 is not TOLD", x.ends(0, 0), Check.NONE);
        x.law(1);
        x.tear();
        x.came(2);
        x.came(0);
        x.came(1);
        // by LAW 1 between 2 at 21 and 1 at 25
        Check.due("ends(0, 0) by LAW 1", x.ends(0, 0), 22);
        Check.due("ends(0, 1) by LAW 1", x.ends(0, 1), 25);
    }

    private static void postmenAndBook() {
        HeaviestFirst x = town();
        terms.says("TWO POSTMEN: one takes the k first of the ORDER, the other one the rest, both from the office: k by which the longer of both WALKS is least;");
        // 0 and 23, 9 and 23, 14 and 5, 23 and 0
        Check.due("k", x.two(0), 2);
        terms.says("of like ones the least k;");
        Check.due("one LETTER: 0 is as good as 1", Check.town(PLACES + "letter 1 5 9 9;", 1).two(0), 0);
        // 0 and 24, 5 and 14, 10 and 14, 24 and 0
        Check.due("1 is as good as 2", Check.town(PLACES + "letter 1 9 9 9;letter 0 8 9 9;letter 3 7 9 9;", 3).two(0), 1);
        // 0 and 9, 9 and 9, 9 and 0
        Check.due("two to one PLACE", Check.town(PLACES + "letter 2 5 9 9;letter 2 5 9 9;", 2).two(0), 0);
        terms.says("how long.");
        Check.due("how long", x.two(1), 14);
        terms.says("THE BOOK is a row of LETTERS and minutes (30 at most):");
        Check.due("write(1, 9)", x.write(1, 9), 1);
        Check.due("write(1, 9) again", x.write(1, 9), 2);
        Check.due("entries", x.told(10), 2);
        terms.says("WRONG: the first by which a LETTER comes at another minute;");
        x.write(0, 23);
        x.write(2, 15);
        x.write(0, 22);
        Check.due("judge()", x.judge(), 3);
        x.stones(1, 9);
        Check.due("the WALK is as it was", x.judge(), 3);
        x.law(1);
        Check.due("another WALK", x.judge(), 0);
        terms.says("NONE.");
        Check.due("tear()", x.tear(), 5);
        Check.due("no BOOK", x.judge(), Check.NONE);
        x.write(0, 5);
        Check.due("not WRONG", x.judge(), Check.NONE);
    }

    private static void draws() {
        HeaviestFirst x = town();
        terms.says("BY DRAWS: THE SEED (0 at first: each DRAW it becomes it times 1103515245 and 12345, left over by 2 to the 31;");
        Check.due("at first", x.seed(7), 0);
        x.drift(1);
        long seed = 7;
        for (int draw = 0; draw < 6; draw++) {
            seed = (seed * 1103515245L + 12345L) % 2147483648L;
        }
        Check.due("six DRAWS later", x.seed(7), seed);
        terms.says("the DRAW of n is it / 65536, left over by n):");
        // by hand: 7 becomes 1282168116, 564289521 ..: 19564 and 8610
        x.drift(1);
        Check.due("W of 0", x.letter(0, 1), 1282168116 / 65536 % 99 + 1);
        Check.due("PLACE of 0", x.letter(0, 0), 564289521 / 65536 % 4);
        terms.says("n mornings: each LETTER in order: its W becomes a DRAW of 99 and 1, its PLACE a DRAW of PLACES (no STONES then);");
        x = town();
        x.seed(7);
        x.stones(2, 9);
        Check.due("two mornings", x.drift(2), 14);
        int[] weights = {58, 66, 27};
        int[] places = {2, 1, 3};
        for (int l = 0; l < 3; l++) {
            Check.due("W of " + l, x.letter(l, 1), weights[l]);
            Check.due("PLACE of " + l, x.letter(l, 0), places[l]);
            Check.due("STONES in " + l, x.letter(l, 4), 0);
        }
        terms.says("all that is HAD is added up.");
        // a morning for itself, and another one behind it
        HeaviestFirst one = town();
        one.seed(7);
        int first = one.drift(1);
        Check.due("the first one", first, one.told(8));
        int second = one.drift(1);
        Check.due("the second one", second, one.told(8));
        Check.due("both", first + second, 14);
    }

    private static void images() {
        HeaviestFirst x = town();
        terms.says("IMAGES 0, 1 keep W, PLACES and STONES of LETTERS, LAW, C, THE SEED.");
        x.stones(0, 5);
        x.law(1);
        x.price(8);
        x.seed(17);
        Check.due("keep(0)", x.keep(0), 1);
        x.drift(1);
        x.law(2);
        x.price(9);
        Check.due("keep(1)", x.keep(1), 1);
        int[] places = {x.letter(0, 0), x.letter(1, 0), x.letter(2, 0)};
        int[] weights = {x.letter(0, 1), x.letter(1, 1), x.letter(2, 1)};
        Check.due("goBack(0)", x.goBack(0), 1);
        Check.due("W", x.letter(0, 1), 20);
        for (int l = 0; l < 3; l++) {
            Check.due("PLACE of " + l, x.letter(l, 0), l + 1);
            Check.holds("another PLACE before: " + places[l], places[l] != l + 1);
        }
        Check.due("STONES", x.letter(0, 4), 5);
        Check.due("LAW", x.told(4), 1);
        Check.due("C", x.told(2), 8);
        Check.due("THE SEED", x.seed(0), 17);
        Check.due("goBack(1)", x.goBack(1), 1);
        for (int l = 0; l < 3; l++) {
            Check.due("PLACE of " + l, x.letter(l, 0), places[l]);
            Check.due("W of " + l, x.letter(l, 1), weights[l]);
        }
        Check.due("STONES", x.letter(0, 4), 0);
        Check.due("LAW", x.told(4), 2);
        Check.due("C", x.told(2), 9);
    }
}
