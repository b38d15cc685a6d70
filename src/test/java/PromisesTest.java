/** The document's promises from the first one to the last one, each sentence with answers of its own. */
public final class PromisesTest {
    private static final int LEAST = Integer.MIN_VALUE, MOST = Integer.MAX_VALUE;
    private static final String PLACES = "place 0 0;place 5 0;place 0 9;place 5 9;";
    /** In the ORDER 1, 2, 0: 9, 14, 23 minutes. */
    private static final String TOWN = PLACES + "letter 1 20 6 9;letter 2 23 40 7;letter 3 21 20 8;stone 2;";
    private static final int BYTES = 98;
    /** Both want to be first. */
    private static final String RESTLESS = "place 50 0;place 10 0;place 90 0;letter 1 4 40 21;letter 2 4 40 21;stone 1;";

    private static Document promises;

    public static void main(String[] args) throws Exception {
        promises = new Document("## Promise 1: A new object", "## Not promised");
        newObject();
        feed();
        town();
        fault();
        told();
        place();
        letter();
        farAndOrder();
        stonesLawPrice();
        drift();
        shortest();
        inTime();
        answerAndRests();
        bestAndAgreed();
        two();
        cameAndEnds();
        writeTearJudge();
        seedKeepGoBack();
        promises.end();
        Check.end("PromisesTest");
    }

    private static HeaviestFirst aTown() {
        return Check.town(TOWN, 3);
    }

    private static void newObject() {
        HeaviestFirst x = new HeaviestFirst();
        promises.heads("## Promise 1: A new object `HeaviestFirst()`:");
        promises.says("No PLACES, no LETTERS.");
        Check.due("told(0)", x.told(0), 0);
        Check.due("told(1)", x.told(1), 0);
        Check.due("place(0, 0)", x.place(0, 0), Check.UNKNOWN);
        Check.due("letter(0, 0)", x.letter(0, 0), Check.UNKNOWN);
        Check.due("far(0, 0)", x.far(0, 0), Check.UNKNOWN);
        Check.due("order(0)", x.order(0), Check.NONE);
    }

    private static void feed() {
        promises.heads("## Promise 2: feed `int feed(int n, long bytes)`:");
        promises.says("The lowest n bytes (1 .. 8) of a long, the highest of these first, come behind THE TEXT: how many it has.");
        HeaviestFirst x = new HeaviestFirst();
        Check.due("'stone 7;'", x.feed(8, 0x73746F6E6520373BL), 8);
        Check.due("town()", x.town(), 0);
        Check.due("C", x.told(2), 7);
        Check.due("'st' behind what does not count", x.feed(2, 0x1122334455667374L), 2);
        Check.due("'one 8'", x.feed(5, 0x6F6E652038L), 7);
        Check.due("';'", x.feed(1, 0xFFFFFFFFFFFFFF3BL), 8);
        Check.due("town()", x.town(), 0);
        Check.due("C", x.told(2), 8);
        Check.due("a byte above 127 behind a blank", x.feed(2, 0x20F3), 2);
        Check.due("town()", x.town(), -11);
        Check.due("fault()", x.fault(), 1);
        promises.says("OUTSIDE,");
        for (int n : new int[] {0, 9, -1, LEAST, MOST}) {
            Check.due("feed(" + n + ")", x.feed(n, 0x20), Check.OUTSIDE);
        }
        promises.says("FULL (400).");
        Check.feed(x, " ".repeat(396));
        Check.due("five more", x.feed(5, 0x2020202020L), Check.FULL);
        Check.due("four more", x.feed(4, 0x20202020L), 400);
        Check.due("one more", x.feed(1, 0x20), Check.FULL);
        Check.due("nine more", x.feed(9, 0x20), Check.OUTSIDE);
        Check.due("bytes", x.told(3), 400);
        Check.due("town()", x.town(), 0);
    }

    /** A town with all that a text may take away, and what it may not. */
    private static HeaviestFirst usedTown() {
        HeaviestFirst x = aTown();
        x.stones(0, 3);
        x.came(1);
        x.write(1, 9);
        x.keep(0);
        x.keep(1);
        x.law(1);
        x.seed(77);
        x.price(50);
        return x;
    }

    private static void town() {
        promises.heads("## Promise 3: town `int town()`:");
        promises.says("THE TEXT (it is empty then, with a FAULT, too) becomes THE TOWN (no STONES, nothing TOLD, no BOOK; IMAGES are gone; LAW, THE SEED stay): how many LETTERS;");
        HeaviestFirst x = usedTown();
        Check.feed(x, "place 1 2;letter 0 3 4 5;");
        Check.due("town()", x.town(), 1);
        int[] due = {1, 1, 1, 0, 1, 0, 0, 1, 5, 0, 0};
        for (int what = 0; what < due.length; what++) {
            Check.due("told(" + what + ")", x.told(what), due[what]);
        }
        Check.due("IMAGE 0", x.goBack(0), Check.NOT);
        Check.due("IMAGE 1", x.goBack(1), Check.NOT);
        Check.due("THE SEED", x.seed(77), 77);
        Check.due("X", x.place(0, 0), 1);
        Check.due("W", x.letter(0, 1), 3);
        Check.due("of no text", x.town(), 0);
        Check.due("PLACES", x.told(0), 0);
        promises.says("-10 less the number of its FAULT (all else is as it was).");
        String[] faulty = {"place 1 1;letter 0 5 5 5;stone 9;x", "place 1 1;stone 100;", "place 1 1;stone 9;stone 9;"};
        for (int number = 1; number <= 3; number++) {
            x = usedTown();
            Check.feed(x, faulty[number - 1]);
            Check.due("town()", x.town(), -10 - number);
            Check.due("bytes", x.told(3), 0);
            Check.holds("all else is as it was behind fault " + number, allButFault(x).equals(allButFault(usedTown())));
        }
    }

    private static String allButFault(HeaviestFirst x) {
        return Twin.all(x).replaceFirst("fault -?[0-9]+\n", "");
    }

    private static void fault() {
        HeaviestFirst x = aTown();
        promises.heads("## Promise 4: fault `int fault()`:");
        promises.says("The place (from 0 on) of the byte that has the FAULT of the latest town();");
        Check.feed(x, "stone 1;   *");
        Check.due("before town()", x.fault(), Check.NONE);
        Check.due("town()", x.town(), -11);
        Check.due("fault()", x.fault(), 11);
        Check.feed(x, "!");
        Check.due("still of the latest one", x.fault(), 11);
        Check.due("town()", x.town(), -11);
        Check.due("fault()", x.fault(), 0);
        promises.says("NONE.");
        Check.due("town()", x.town(), 0);
        Check.due("behind a good one", x.fault(), Check.NONE);
        Check.due("of a new object", new HeaviestFirst().fault(), Check.NONE);
    }

    private static void told() {
        HeaviestFirst x = aTown();
        x.feed(3, 0x202020);
        x.stones(0, 1);
        x.stones(1, 2);
        x.came(2);
        x.came(0);
        x.write(0, 0);
        promises.heads("## Promise 5: told `int told(int what)`:");
        promises.says("0 PLACES, 1 LETTERS, 2 C, 3 bytes of THE TEXT, 4 LAW, 5 the WALK, 6 STONES in all, 7 LETTERS IN TIME (a SET), 8 HAD of all, 9 LETTERS of TOLD, 10 entries of THE BOOK.");
        // 0 at 21 is ahead of 2 now: 1, 0, 2
        int[] due = {4, 3, 2, 3, 0, 9 + 14 + 9, 3, 1 << 1, 7 - 2 * 3, 2, 1};
        for (int what = 0; what < due.length; what++) {
            Check.due("told(" + what + ")", x.told(what), due[what]);
        }
        x.law(1);
        Check.due("told(4)", x.told(4), 1);
        promises.says("OUTSIDE.");
        for (int what : new int[] {-1, 11, LEAST, MOST}) {
            Check.due("told(" + what + ")", x.told(what), Check.OUTSIDE);
        }
    }

    private static void place() {
        HeaviestFirst x = Check.town("place 98 1;place 2 97;", 0);
        promises.heads("## Promise 6: place `int place(int p, int what)`:");
        promises.says("Of a PLACE: what = 0 X, 1 Y.");
        Check.due("place(0, 0)", x.place(0, 0), 98);
        Check.due("place(0, 1)", x.place(0, 1), 1);
        Check.due("place(1, 0)", x.place(1, 0), 2);
        Check.due("place(1, 1)", x.place(1, 1), 97);
        promises.says("UNKNOWN, OUTSIDE.");
        for (int p : new int[] {2, 7, -1, LEAST, MOST}) {
            Check.due("place(" + p + ", 0)", x.place(p, 0), Check.UNKNOWN);
            Check.due("place(" + p + ", 2)", x.place(p, 2), Check.UNKNOWN);
        }
        for (int what : new int[] {2, -1, LEAST, MOST}) {
            Check.due("place(1, " + what + ")", x.place(1, what), Check.OUTSIDE);
        }
    }

    private static void letter() {
        HeaviestFirst x = aTown();
        x.stones(2, 1);
        promises.heads("## Promise 7: letter `int letter(int l, int what)`:");
        promises.says("Of a LETTER: what = 0 PLACE, 1 W, 2 DUE, 3 WORTH, 4 STONES, 5 HEAVY, 6 its place in the ORDER, 7 COMES, 8 HAD.");
        int[][] due = {{1, 20, 6, 9, 0, 20, 2, 23, 0}, {2, 23, 40, 7, 0, 23, 0, 9, 7}, {3, 21, 20, 8, 1, 22, 1, 14, 8 - 2}};
        for (int l = 0; l < 3; l++) {
            for (int what = 0; what <= 8; what++) {
                Check.due("letter(" + l + ", " + what + ")", x.letter(l, what), due[l][what]);
            }
        }
        promises.says("UNKNOWN, OUTSIDE.");
        for (int l : new int[] {3, 7, -1, LEAST, MOST}) {
            Check.due("letter(" + l + ", 8)", x.letter(l, 8), Check.UNKNOWN);
            Check.due("letter(" + l + ", 9)", x.letter(l, 9), Check.UNKNOWN);
        }
        for (int what : new int[] {9, -1, LEAST, MOST}) {
            Check.due("letter(2, " + what + ")", x.letter(2, what), Check.OUTSIDE);
        }
    }

    private static void farAndOrder() {
        HeaviestFirst x = aTown();
        promises.heads("## Promise 8: far `int far(int p, int q)`:");
        promises.says("FAR.");
        Check.due("far(0, 3)", x.far(0, 3), 14);
        Check.due("far(3, 1)", x.far(3, 1), 9);
        Check.due("far(2, 2)", x.far(2, 2), 0);
        Check.due("as far as may be", Check.town("place 99 0;place 0 99;", 0).far(0, 1), 198);
        promises.says("UNKNOWN.");
        for (int p : new int[] {4, -1, LEAST, MOST}) {
            Check.due("far(" + p + ", 0)", x.far(p, 0), Check.UNKNOWN);
            Check.due("far(3, " + p + ")", x.far(3, p), Check.UNKNOWN);
        }
        promises.heads("## Promise 9: order `int order(int i)`:");
        promises.says("The LETTER that is i-th in the ORDER (0 on);");
        Check.due("order(0)", x.order(0), 1);
        Check.due("order(1)", x.order(1), 2);
        Check.due("order(2)", x.order(2), 0);
        promises.says("NONE: not so many, i below 0.");
        for (int i : new int[] {3, 7, -1, -2, LEAST, MOST}) {
            Check.due("order(" + i + ")", x.order(i), Check.NONE);
        }
    }

    private static void stonesLawPrice() {
        HeaviestFirst x = aTown();
        promises.heads("## Promise 10: stones `int stones(int l, int n)`:");
        promises.says("STONES in a LETTER become n: how many they were.");
        Check.due("stones(2, 9)", x.stones(2, 9), 0);
        Check.due("stones(2, 4)", x.stones(2, 4), 9);
        Check.due("stones(2, 0)", x.stones(2, 0), 4);
        Check.due("STONES", x.letter(2, 4), 0);
        promises.says("UNKNOWN, OUTSIDE (0 .. 9).");
        Check.due("stones(3, 0)", x.stones(3, 0), Check.UNKNOWN);
        Check.due("stones(-1, 10)", x.stones(-1, 10), Check.UNKNOWN);
        Check.due("stones(2, 10)", x.stones(2, 10), Check.OUTSIDE);
        Check.due("stones(2, -1)", x.stones(2, -1), Check.OUTSIDE);
        promises.heads("## Promise 11: law `int law(int v)`:");
        promises.says("LAW becomes v (0 .. 2): what it was.");
        Check.due("law(2)", x.law(2), 0);
        Check.due("law(1)", x.law(1), 2);
        Check.due("law(0)", x.law(0), 1);
        promises.says("OUTSIDE.");
        Check.due("law(3)", x.law(3), Check.OUTSIDE);
        Check.due("law(-1)", x.law(-1), Check.OUTSIDE);
        Check.due("LAW", x.told(4), 0);
        promises.heads("## Promise 12: price `int price(int v)`:");
        promises.says("C becomes v (0 .. 99): what it was.");
        Check.due("price(99)", x.price(99), 2);
        Check.due("price(0)", x.price(0), 99);
        Check.due("C", x.told(2), 0);
        promises.says("OUTSIDE.");
        Check.due("price(100)", x.price(100), Check.OUTSIDE);
        Check.due("price(-1)", x.price(-1), Check.OUTSIDE);
        Check.due("C", x.told(2), 0);
    }

    private static void drift() {
        HeaviestFirst x = aTown();
        x.seed(7);
        promises.heads("## Promise 13: drift `int drift(int n)`:");
        promises.says("n mornings (1 .. 99) BY DRAWS: what is HAD together.");
        Check.due("two mornings", x.drift(2), 14);
        HeaviestFirst y = aTown();
        y.seed(7);
        Check.due("one and one", y.drift(1) + y.drift(1), 14);
        Check.due("98 and 1 are 99", x.drift(98) + x.drift(1), y.drift(99));
        Check.due("THE SEED is alike", x.seed(0), y.seed(0));
        promises.says("OUTSIDE, NOT: no LETTERS.");
        for (int n : new int[] {0, 100, -1, LEAST, MOST}) {
            Check.due("drift(" + n + ")", x.drift(n), Check.OUTSIDE);
            Check.due("drift(" + n + ") without LETTERS", new HeaviestFirst().drift(n), Check.OUTSIDE);
        }
        Check.due("without LETTERS", Check.town(PLACES, 0).drift(1), Check.NOT);
    }

    private static void shortest() {
        HeaviestFirst x = aTown();
        promises.heads("## Promise 14: shortest `int shortest(int i)`:");
        promises.says("SHORTEST: i = NONE the WALK, -2 how many STONES, else the i-th LETTER of the ORDER;");
        int[] due = {7, 19, 0, 2, 1};
        for (int i = -2; i < 3; i++) {
            Check.due("shortest(" + i + ")", x.shortest(i), due[i + 2]);
        }
        promises.says("NONE: not so many (i below these, too).");
        for (int i : new int[] {3, 7, -3, LEAST, MOST}) {
            Check.due("shortest(" + i + ")", x.shortest(i), Check.NONE);
        }
        promises.says("NOT: LAW 2, no LETTERS.");
        x.law(2);
        for (int i : new int[] {-3, -2, -1, 0, 3}) {
            Check.due("shortest(" + i + ") by LAW 2", x.shortest(i), Check.NOT);
            Check.due("shortest(" + i + ") without LETTERS", Check.town(PLACES, 0).shortest(i), Check.NOT);
        }
    }

    private static void inTime() {
        HeaviestFirst x = aTown();
        promises.heads("## Promise 15: inTime `int inTime(int i)`:");
        promises.says("ALL IN TIME: i = NONE how many STONES, -2 the WALK, else the i-th LETTER;");
        int[] due = {19, 7, 0, 2, 1};
        for (int i = -2; i < 3; i++) {
            Check.due("inTime(" + i + ")", x.inTime(i), due[i + 2]);
        }
        promises.says("NONE: there is none, not so many.");
        for (int i : new int[] {3, 7, -3, LEAST, MOST}) {
            Check.due("inTime(" + i + ")", x.inTime(i), Check.NONE);
        }
        HeaviestFirst late = Check.town(PLACES + "letter 1 5 4 1;", 1);
        for (int i = -3; i < 2; i++) {
            Check.due("inTime(" + i + ") of a late one", late.inTime(i), Check.NONE);
        }
        promises.says("NOT: LAW 2, no LETTERS.");
        x.law(2);
        late.law(2);
        for (int i : new int[] {-3, -2, -1, 0, 3}) {
            Check.due("inTime(" + i + ") by LAW 2", x.inTime(i), Check.NOT);
            Check.due("inTime(" + i + ") of a late one by LAW 2", late.inTime(i), Check.NOT);
            Check.due("inTime(" + i + ") without LETTERS", Check.town(PLACES, 0).inTime(i), Check.NOT);
        }
    }

    private static void answerAndRests() {
        HeaviestFirst x = aTown();
        promises.heads("## Promise 16: answer `int answer(int l)`:");
        promises.says("BEST ANSWER: STONES.");
        Check.due("answer(0)", x.answer(0), 3);
        Check.due("answer(1)", x.answer(1), 0);
        Check.due("STONES stay", x.told(6), 0);
        x.law(2);
        // by turns 1, 0, 2: 2 is at 32; two STONES make it as heavy as 1, but 1 is the lesser LETTER; three bring 2, 0, 1: 8 - 6
        Check.due("answer(2) by LAW 2", x.answer(2), 3);
        x.law(0);
        promises.says("UNKNOWN.");
        for (int l : new int[] {3, 7, -1, LEAST, MOST}) {
            Check.due("answer(" + l + ")", x.answer(l), Check.UNKNOWN);
        }
        promises.heads("## Promise 17: rests `int rests(int l)`:");
        promises.says("RESTS: l = NONE how many rounds changed something, -2 HAD of all, -3 the WALK, else STONES of a LETTER;");
        int[] due = {19, 10, 2, 4, 0, 3};
        for (int l = -3; l < 3; l++) {
            Check.due("rests(" + l + ")", x.rests(l), due[l + 3]);
        }
        promises.says("NONE: never.");
        HeaviestFirst restless = Check.town(RESTLESS, 2);
        for (int l = -3; l < 2; l++) {
            Check.due("rests(" + l + ")", restless.rests(l), Check.NONE);
        }
        promises.says("UNKNOWN.");
        for (int l : new int[] {3, 7, -4, LEAST, MOST}) {
            Check.due("rests(" + l + ")", x.rests(l), Check.UNKNOWN);
            Check.due("rests(" + l + ") where there is none", restless.rests(l), Check.UNKNOWN);
        }
    }

    private static void bestAndAgreed() {
        promises.heads("## Promise 18: best `int best()`:");
        promises.says("BEST PRICE;");
        // 3 STONES make 0 first and the WALK 90 minutes long, none 60
        Check.due("from 12 on it takes none",
                Check.town("place 50 0;place 90 0;place 40 0;letter 1 5 40 36;letter 2 8 99 5;", 2).best(), 12);
        Check.due("at 20", Check.town(RESTLESS.replace("21", "20"), 2).best(), 20);
        Check.due("without LETTERS", new HeaviestFirst().best(), 0);
        promises.says("NONE.");
        Check.due("at 21", Check.town(RESTLESS, 2).best(), Check.NONE);
        HeaviestFirst x = aTown();
        promises.heads("## Promise 19: agreed `int agreed(int set, int what)`:");
        promises.says("AGREED (a SET, not empty): what = 0 by how much the WALK is less, 1 the cost.");
        Check.due("agreed(7, 0)", x.agreed(7, 0), 23 - 24);
        Check.due("agreed(7, 1)", x.agreed(7, 1), (3 + 2) * 2);
        promises.says("UNKNOWN (an empty SET, too), OUTSIDE,");
        for (int set : new int[] {0, 8, 9, -1, 1 << 7, LEAST, MOST}) {
            Check.due("agreed(" + set + ", 0)", x.agreed(set, 0), Check.UNKNOWN);
            Check.due("agreed(" + set + ", 2)", x.agreed(set, 2), Check.UNKNOWN);
        }
        for (int what : new int[] {2, -1, LEAST, MOST}) {
            Check.due("agreed(7, " + what + ")", x.agreed(7, what), Check.OUTSIDE);
        }
        promises.says("NOT: one would need more than 9.");
        HeaviestFirst apart = Check.town(PLACES + "letter 1 10 9 9;letter 2 19 9 9;letter 3 20 9 9;", 3);
        Check.due("10 and 19", apart.agreed(3, 1), 9);
        Check.due("10 and 20", apart.agreed(5, 1), Check.NOT);
        Check.due("10, 19 and 20", apart.agreed(7, 0), Check.NOT);
        Check.due("10 and 20, what = 2", apart.agreed(5, 2), Check.OUTSIDE);
        apart.stones(1, 1);
        Check.due("10 and 20 by a STONE", apart.agreed(3, 0), Check.NOT);
    }

    private static void two() {
        HeaviestFirst x = aTown();
        promises.heads("## Promise 20: two `int two(int what)`:");
        promises.says("TWO POSTMEN: what = 0 k, 1 how long.");
        Check.due("two(0)", x.two(0), 2);
        Check.due("two(1)", x.two(1), 14);
        Check.due("two(0) without LETTERS", new HeaviestFirst().two(0), 0);
        Check.due("two(1) without LETTERS", new HeaviestFirst().two(1), 0);
        promises.says("OUTSIDE.");
        for (int what : new int[] {2, -1, LEAST, MOST}) {
            Check.due("two(" + what + ")", x.two(what), Check.OUTSIDE);
        }
    }

    private static void cameAndEnds() {
        HeaviestFirst x = aTown();
        promises.heads("## Promise 21: came `int came(int l)`:");
        promises.says("A LETTER behind TOLD: how many.");
        Check.due("came(1)", x.came(1), 1);
        Check.due("came(0)", x.came(0), 2);
        promises.says("UNKNOWN, NOT: it is there.");
        Check.due("came(1)", x.came(1), Check.NOT);
        Check.due("came(0)", x.came(0), Check.NOT);
        for (int l : new int[] {3, 7, -1, LEAST, MOST}) {
            Check.due("came(" + l + ")", x.came(l), Check.UNKNOWN);
        }
        Check.due("came(2)", x.came(2), 3);
        promises.heads("## Promise 22: ends `int ends(int l, int what)`:");
        promises.says("ENDS: what = 0 the least, 1 the greatest;");
        // 1, 0, 2 of 23, 0, 21
        Check.due("ends(0, 0)", x.ends(0, 0), 21);
        Check.due("ends(0, 1)", x.ends(0, 1), 22);
        promises.says("NONE.");
        Check.due("ends(1, 0): 2 stays ahead of 0", x.ends(1, 0), Check.NONE);
        Check.due("ends(2, 1): as heavy as 0 it is behind it", x.ends(2, 1), 20);
        x.tear();
        Check.due("nothing is TOLD", x.ends(0, 0), Check.NONE);
        promises.says("UNKNOWN, OUTSIDE, NOT: LAW 2.");
        x.law(2);
        for (int l : new int[] {3, 7, -1, LEAST, MOST}) {
            Check.due("ends(" + l + ", 2)", x.ends(l, 2), Check.UNKNOWN);
        }
        for (int what : new int[] {2, -1, LEAST, MOST}) {
            Check.due("ends(0, " + what + ")", x.ends(0, what), Check.OUTSIDE);
        }
        Check.due("ends(0, 0) by LAW 2", x.ends(0, 0), Check.NOT);
    }

    private static void writeTearJudge() {
        HeaviestFirst x = aTown();
        promises.heads("## Promise 23: write `int write(int l, int minute)`:");
        promises.says("An entry behind THE BOOK (minute 0 .. 9999): how many.");
        Check.due("write(0, 0)", x.write(0, 0), 1);
        Check.due("write(0, 9999)", x.write(0, 9999), 2);
        promises.says("UNKNOWN, OUTSIDE, FULL (30).");
        Check.due("write(0, 10000)", x.write(0, 10000), Check.OUTSIDE);
        Check.due("write(0, -1)", x.write(0, -1), Check.OUTSIDE);
        Check.due("write(3, -1)", x.write(3, -1), Check.UNKNOWN);
        for (int entry = 3; entry <= 30; entry++) {
            Check.due("write(2, 14)", x.write(2, 14), entry);
        }
        Check.due("write(2, 14)", x.write(2, 14), Check.FULL);
        Check.due("write(2, 10000)", x.write(2, 10000), Check.OUTSIDE);
        Check.due("write(-1, 14)", x.write(-1, 14), Check.UNKNOWN);
        promises.heads("## Promise 24: tear `int tear()`:");
        promises.says("THE BOOK is empty, nothing is TOLD: how many both had.");
        x.came(0);
        x.came(2);
        Check.due("tear()", x.tear(), 32);
        Check.due("TOLD", x.told(9), 0);
        Check.due("entries", x.told(10), 0);
        Check.due("tear() again", x.tear(), 0);
        Check.due("came(0)", x.came(0), 1);
        Check.due("write(1, 9)", x.write(1, 9), 1);
        promises.heads("## Promise 25: judge `int judge()`:");
        promises.says("WRONG;");
        x.write(0, 23);
        x.write(2, 13);
        x.write(2, 15);
        Check.due("judge()", x.judge(), 2);
        promises.says("NONE.");
        x.tear();
        Check.due("an empty one", x.judge(), Check.NONE);
        x.write(1, 9);
        x.write(2, 14);
        Check.due("a right one", x.judge(), Check.NONE);
    }

    private static void seedKeepGoBack() {
        HeaviestFirst x = aTown();
        promises.heads("## Promise 26: seed `int seed(int v)`:");
        promises.says("THE SEED becomes v (0 .. 2147483647): what it was.");
        Check.due("seed(MOST)", x.seed(2147483647), 0);
        Check.due("seed(0)", x.seed(0), 2147483647);
        Check.due("seed(5)", x.seed(5), 0);
        promises.says("OUTSIDE.");
        Check.due("seed(-1)", x.seed(-1), Check.OUTSIDE);
        Check.due("seed(LEAST)", x.seed(LEAST), Check.OUTSIDE);
        Check.due("seed(5)", x.seed(5), 5);
        promises.heads("## Promise 27: keep `int keep(int i)`:");
        promises.says("IMAGE i becomes what is so: 1.");
        Check.due("keep(1)", x.keep(1), 1);
        x.stones(0, 9);
        Check.due("keep(1) again", x.keep(1), 1);
        x.stones(0, 2);
        Check.due("goBack(1)", x.goBack(1), 1);
        Check.due("STONES", x.letter(0, 4), 9);
        promises.says("UNKNOWN.");
        for (int i : new int[] {2, -1, LEAST, MOST}) {
            Check.due("keep(" + i + ")", x.keep(i), Check.UNKNOWN);
        }
        promises.heads("## Promise 28: goBack `int goBack(int i)`:");
        promises.says("What is so becomes IMAGE i: 1.");
        x.drift(3);
        x.law(1);
        Check.due("goBack(1)", x.goBack(1), 1);
        Check.due("W", x.letter(0, 1), 20);
        Check.due("LAW", x.told(4), 0);
        x.stones(0, 1);
        Check.due("goBack(1) again", x.goBack(1), 1);
        Check.due("STONES", x.letter(0, 4), 9);
        promises.says("UNKNOWN, NOT: it was not kept.");
        for (int i : new int[] {2, -1, LEAST, MOST}) {
            Check.due("goBack(" + i + ")", x.goBack(i), Check.UNKNOWN);
        }
        Check.due("goBack(0)", x.goBack(0), Check.NOT);
    }
}
