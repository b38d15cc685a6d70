/** Promises 21 to 28: told orders and their ends, the book, the seed, images. */
public final class ToldOrdersTest {
    private static final String THREE = "place 0 0;place 0 5;letter 0 40 9 4;letter 1 50 9 7;letter 1 60 9 7;";

    public static void main(String[] args) {
        came();
        ends();
        endsOfLikeOnes();
        endsRefused();
        book();
        bookIsFull();
        tear();
        judge();
        seed();
        images();
        imagesKeepJustThat();
        imagesRefused();
        Check.end("ToldOrdersTest");
    }

    private static void came() {
        HeaviestFirst x = Check.town(THREE, 3);
        Check.due("came(2)", x.came(2), 1);
        Check.due("came(0)", x.came(0), 2);
        Check.due("came(2)", x.came(2), Check.NOT);
        Check.due("came(0)", x.came(0), Check.NOT);
        Check.due("came(3)", x.came(3), Check.UNKNOWN);
        Check.due("came(-1)", x.came(-1), Check.UNKNOWN);
        Check.due("told(9)", x.told(9), 2);
        Check.due("came(1)", x.came(1), 3);
        Check.due("came(1)", x.came(1), Check.NOT);
        Check.due("told(9)", x.told(9), 3);
        x = Check.town("place 0 0;" + "letter 0 1 1 1;".repeat(7), 7);
        for (int l = 0; l < 7; l++) {
            Check.due("came", x.came(6 - l), l + 1);
        }
        Check.due("came(3)", x.came(3), Check.NOT);
    }

    private static void endsAre(HeaviestFirst x, int l, int least, int greatest) {
        Check.due("ends(" + l + ", 0)", x.ends(l, 0), least);
        Check.due("ends(" + l + ", 1)", x.ends(l, 1), greatest);
    }

    private static void ends() {
        HeaviestFirst x = Check.town(THREE, 3);
        endsAre(x, 0, Check.NONE, Check.NONE);
        x.came(2);
        x.came(1);
        endsAre(x, 0, Check.NONE, Check.NONE);
        x.came(0);
        // 2, 1, 0: 0 up to 49 (it is the lesser LETTER), 1 from 41 to 59, 2 from 51 on
        endsAre(x, 0, 1, 49);
        endsAre(x, 1, 40 + 1, 60 - 1);
        endsAre(x, 2, 51, 108);
        x.stones(1, 9);
        endsAre(x, 0, 1, 58);
        endsAre(x, 1, 41, 59);
        endsAre(x, 2, 60, 108);
        Check.due("HEAVY stays", x.letter(1, 5), 59);
        x.law(1);
        endsAre(x, 0, Check.NONE, Check.NONE);
        endsAre(x, 1, Check.NONE, Check.NONE);
        x.tear();
        x.came(0);
        x.came(1);
        x.came(2);
        endsAre(x, 0, 1, 59);
        endsAre(x, 1, 40, 60);
        endsAre(x, 2, 59, 108);
        x.law(0);
        endsAre(x, 1, Check.NONE, Check.NONE);
        x.stones(1, 0);
        // heaviest first, 0 told first: 0 from 60 on would do if 1 were ahead of 2, which it is not
        endsAre(x, 0, Check.NONE, Check.NONE);
        x.tear();
        x.came(0);
        x.came(2);
        x.came(1);
        endsAre(x, 0, 60, 108);
        endsAre(x, 2, Check.NONE, Check.NONE);
    }

    private static void endsOfLikeOnes() {
        HeaviestFirst x = Check.town("place 0 0;letter 0 99 9 4;letter 0 99 9 7;letter 0 1 9 7;", 3);
        x.stones(0, 9);
        x.stones(1, 9);
        x.came(0);
        x.came(1);
        x.came(2);
        // like ones: the lesser LETTER is ahead, so 108 alone will do for 0 and 1 has 1 to 108
        endsAre(x, 0, 108, 108);
        endsAre(x, 1, 1, 108);
        endsAre(x, 2, 1, 108);
        x.law(1);
        endsAre(x, 0, Check.NONE, Check.NONE);
        endsAre(x, 2, 108, 108);
        x = Check.town("place 0 0;letter 0 8 9 4;", 1);
        endsAre(x, 0, Check.NONE, Check.NONE);
        x.came(0);
        endsAre(x, 0, 1, 108);
    }

    private static void endsRefused() {
        HeaviestFirst x = Check.town(THREE, 3);
        Check.due("ends(3, 0)", x.ends(3, 0), Check.UNKNOWN);
        Check.due("ends(-1, 0)", x.ends(-1, 0), Check.UNKNOWN);
        Check.due("ends(0, 2)", x.ends(0, 2), Check.OUTSIDE);
        Check.due("ends(0, -1)", x.ends(0, -1), Check.OUTSIDE);
        Check.due("ends(3, 2)", x.ends(3, 2), Check.UNKNOWN);
        x.law(2);
        Check.due("ends(0, 0) by LAW 2", x.ends(0, 0), Check.NOT);
        Check.due("ends(0, 1) by LAW 2", x.ends(0, 1), Check.NOT);
        Check.due("ends(0, 2) by LAW 2", x.ends(0, 2), Check.OUTSIDE);
        Check.due("ends(3, 0) by LAW 2", x.ends(3, 0), Check.UNKNOWN);
    }

    private static void book() {
        HeaviestFirst x = Check.town(THREE, 3);
        Check.due("write(0, 0)", x.write(0, 0), 1);
        Check.due("write(0, 9999)", x.write(0, 9999), 2);
        Check.due("write(0, 10000)", x.write(0, 10000), Check.OUTSIDE);
        Check.due("write(0, -1)", x.write(0, -1), Check.OUTSIDE);
        Check.due("write(3, 0)", x.write(3, 0), Check.UNKNOWN);
        Check.due("write(-1, 0)", x.write(-1, 0), Check.UNKNOWN);
        Check.due("write(3, 10000)", x.write(3, 10000), Check.UNKNOWN);
        Check.due("told(10)", x.told(10), 2);
        Check.due("write(2, 7)", x.write(2, 7), 3);
    }

    private static void bookIsFull() {
        HeaviestFirst x = Check.town(THREE, 3);
        for (int k = 1; k <= 30; k++) {
            Check.due("write", x.write(1, 5), k);
        }
        Check.due("the 31st", x.write(1, 5), Check.FULL);
        Check.due("the 31st outside", x.write(1, 10000), Check.OUTSIDE);
        Check.due("the 31st unknown", x.write(3, 5), Check.UNKNOWN);
        Check.due("told(10)", x.told(10), 30);
        Check.due("judge()", x.judge(), Check.NONE);
        Check.due("tear()", x.tear(), 30);
        Check.due("write", x.write(1, 5), 1);
    }

    private static void tear() {
        HeaviestFirst x = Check.town(THREE, 3);
        Check.due("tear()", x.tear(), 0);
        x.came(1);
        x.came(2);
        x.write(0, 5);
        x.write(0, 6);
        x.write(0, 7);
        Check.due("tear()", x.tear(), 5);
        Check.due("told(9)", x.told(9), 0);
        Check.due("told(10)", x.told(10), 0);
        Check.due("judge()", x.judge(), Check.NONE);
        Check.due("tear()", x.tear(), 0);
        Check.due("came(1)", x.came(1), 1);
    }

    private static void judge() {
        HeaviestFirst x = Check.town(THREE, 3);
        // the ORDER is 2, 1, 0: they come at 5, 5, 10
        Check.due("judge()", x.judge(), Check.NONE);
        x.write(2, 5);
        x.write(1, 5);
        x.write(0, 10);
        x.write(0, 10);
        Check.due("judge()", x.judge(), Check.NONE);
        x.write(0, 9);
        x.write(1, 6);
        Check.due("judge()", x.judge(), 4);
        x.law(1);
        // 0, 1, 2: at 0, 5, 5
        Check.due("judge() by LAW 1", x.judge(), 2);
        x.law(0);
        x.stones(0, 9);
        Check.due("judge() with stones", x.judge(), 4);
        x.tear();
        x.write(2, 4);
        x.write(1, 6);
        Check.due("judge() of the first entry", x.judge(), 0);
    }

    private static void seed() {
        HeaviestFirst x = Check.town(THREE, 3);
        Check.due("seed(5)", x.seed(5), 0);
        Check.due("seed(most)", x.seed(2147483647), 5);
        Check.due("seed(-1)", x.seed(-1), Check.OUTSIDE);
        Check.due("seed(least)", x.seed(Integer.MIN_VALUE), Check.OUTSIDE);
        Check.due("seed(0)", x.seed(0), 2147483647);
        x.seed(12345);
        // the next is 1406932606: / 65536 is 21468, left over by 99: 84
        x.drift(1);
        Check.due("letter(0, 1)", x.letter(0, 1), 85);
    }

    private static void images() {
        HeaviestFirst x = Check.town(THREE, 3);
        x.stones(0, 1);
        Check.due("keep(0)", x.keep(0), 1);
        x.stones(0, 2);
        x.law(1);
        x.price(7);
        x.seed(10);
        x.drift(1);
        x.stones(2, 8);
        int weight = x.letter(1, 1);
        // the seed is chosen so that this one is drawn another PLACE than it had
        int goal = x.letter(2, 0);
        Check.due("PLACE drawn", goal, 0);
        Check.due("keep(1)", x.keep(1), 1);
        Check.due("goBack(0)", x.goBack(0), 1);
        Check.due("W", x.letter(1, 1), 50);
        Check.due("PLACE", x.letter(2, 0), 1);
        Check.due("STONES", x.letter(0, 4), 1);
        Check.due("STONES", x.letter(2, 4), 0);
        Check.due("LAW", x.told(4), 0);
        Check.due("C", x.told(2), 1);
        Check.due("THE SEED", x.seed(3), 0);
        Check.due("goBack(1)", x.goBack(1), 1);
        Check.due("W", x.letter(1, 1), weight);
        Check.due("PLACE", x.letter(2, 0), goal);
        Check.due("STONES", x.told(6), 8);
        Check.due("LAW", x.told(4), 1);
        Check.due("C", x.told(2), 7);
        int seedNow = x.seed(4);
        Check.due("goBack(1) again", x.goBack(1), 1);
        Check.due("THE SEED", x.seed(4), seedNow);
        Check.due("keep(1) anew", x.keep(1), 1);
        x.stones(2, 0);
        x.goBack(1);
        Check.due("STONES", x.letter(2, 4), 8);
        Check.due("THE SEED anew", x.seed(5), 4);
        Check.due("goBack(0) still", x.goBack(0), 1);
        Check.due("W", x.letter(0, 1), 40);
    }

    private static void imagesKeepJustThat() {
        HeaviestFirst x = Check.town(THREE, 3);
        x.came(1);
        x.write(0, 4);
        Check.feed(x, "pl");
        x.keep(0);
        x.came(2);
        x.write(0, 5);
        Check.due("feed", x.feed(1, 'a'), 3);
        Check.due("goBack(0)", x.goBack(0), 1);
        Check.due("TOLD stays", x.told(9), 2);
        Check.due("THE BOOK stays", x.told(10), 2);
        Check.due("THE TEXT stays", x.told(3), 3);
        Check.due("LETTERS", x.told(1), 3);
        Check.due("faulty town()", x.town(), -11);
        Check.due("the image outlives a fault", x.goBack(0), 1);
        Check.due("the fault outlives the image", x.fault(), 0);
        x = new HeaviestFirst();
        x.law(2);
        Check.due("keep(0) without a town", x.keep(0), 1);
        x.law(1);
        Check.due("goBack(0) without a town", x.goBack(0), 1);
        Check.due("LAW", x.told(4), 2);
    }

    private static void imagesRefused() {
        HeaviestFirst x = Check.town(THREE, 3);
        Check.due("keep(2)", x.keep(2), Check.UNKNOWN);
        Check.due("keep(-1)", x.keep(-1), Check.UNKNOWN);
        Check.due("goBack(2)", x.goBack(2), Check.UNKNOWN);
        Check.due("goBack(-1)", x.goBack(-1), Check.UNKNOWN);
        Check.due("goBack(0)", x.goBack(0), Check.NOT);
        Check.due("goBack(1)", x.goBack(1), Check.NOT);
        x.keep(1);
        Check.due("goBack(0)", x.goBack(0), Check.NOT);
        Check.due("goBack(1)", x.goBack(1), 1);
        Check.due("town()", x.town(), 0);
        Check.due("goBack(1) behind town()", x.goBack(1), Check.NOT);
    }
}
