/** Promises 10 to 13: stones, law, price, mornings by draws. */
public final class DoneTest {
    private static final String TWO = "place 0 0;place 0 5;letter 0 3 9 4;letter 1 4 9 7;";

    public static void main(String[] args) {
        stones();
        law();
        price();
        drift();
        driftRefused();
        Check.end("DoneTest");
    }

    private static void stones() {
        HeaviestFirst x = Check.town(TWO, 2);
        Check.due("stones(0, 9)", x.stones(0, 9), 0);
        Check.due("stones(0, 2)", x.stones(0, 2), 9);
        Check.due("stones(1, 1)", x.stones(1, 1), 0);
        Check.due("letter(0, 4)", x.letter(0, 4), 2);
        Check.due("letter(0, 5)", x.letter(0, 5), 5);
        Check.due("letter(0, 1)", x.letter(0, 1), 3);
        Check.due("told(6)", x.told(6), 3);
        Check.due("stones(0, 10)", x.stones(0, 10), Check.OUTSIDE);
        Check.due("stones(0, -1)", x.stones(0, -1), Check.OUTSIDE);
        Check.due("stones(2, 0)", x.stones(2, 0), Check.UNKNOWN);
        Check.due("stones(-1, 0)", x.stones(-1, 0), Check.UNKNOWN);
        Check.due("stones(2, 10)", x.stones(2, 10), Check.UNKNOWN);
        Check.due("refused: told(6)", x.told(6), 3);
        Check.due("stones(0, 0)", x.stones(0, 0), 2);
        Check.due("told(6)", x.told(6), 1);
    }

    private static void law() {
        HeaviestFirst x = Check.town(TWO, 2);
        Check.due("law(2)", x.law(2), 0);
        Check.due("law(1)", x.law(1), 2);
        Check.due("law(3)", x.law(3), Check.OUTSIDE);
        Check.due("law(-1)", x.law(-1), Check.OUTSIDE);
        Check.due("told(4)", x.told(4), 1);
        Check.due("order(0)", x.order(0), 0);
        Check.due("law(0)", x.law(0), 1);
        Check.due("order(0)", x.order(0), 1);
    }

    private static void price() {
        HeaviestFirst x = Check.town(TWO, 2);
        x.stones(0, 2);
        Check.due("price(99)", x.price(99), 1);
        Check.due("told(2)", x.told(2), 99);
        Check.due("told(8)", x.told(8), 4 + 7 - 198);
        Check.due("price(100)", x.price(100), Check.OUTSIDE);
        Check.due("price(-1)", x.price(-1), Check.OUTSIDE);
        Check.due("price(0)", x.price(0), 99);
        Check.due("told(8)", x.told(8), 11);
        Check.due("price(5)", x.price(5), 0);
    }

    private static void drift() {
        HeaviestFirst x = Check.town(TWO, 2);
        x.stones(0, 4);
        x.stones(1, 5);
        x.came(1);
        x.write(1, 3);
        // THE SEED from 0: 12345, 1406932606, 654583775, 1449466924; each / 65536: 0, 21468, 9988, 22117
        // LETTER 1 comes at 5, LETTER 0 at 10 and is late
        Check.due("drift(1)", x.drift(1), 7);
        Check.due("letter(0, 1)", x.letter(0, 1), 0 % 99 + 1);
        Check.due("letter(0, 0)", x.letter(0, 0), 21468 % 2);
        Check.due("letter(1, 1)", x.letter(1, 1), 9988 % 99 + 1);
        Check.due("letter(1, 0)", x.letter(1, 0), 22117 % 2);
        Check.due("no STONES", x.told(6), 0);
        Check.due("TOLD stays", x.told(9), 1);
        Check.due("THE BOOK stays", x.told(10), 1);
        Check.due("DUE stays", x.letter(1, 2), 9);
        Check.due("WORTH stays", x.letter(1, 3), 7);
        Check.due("seed", x.seed(0), 1449466924);
        mornings();
    }

    /** Mornings at once are the same mornings one by one, by each law, and only what is in time is had. */
    private static void mornings() {
        String text = "place 0 0;place 0 9;place 9 9;letter 0 3 9 4;letter 1 4 11 7;letter 2 4 20 9;";
        for (int law = 0; law < 3; law++) {
            HeaviestFirst one = Check.town(text, 3);
            HeaviestFirst all = Check.town(text, 3);
            one.law(law);
            all.law(law);
            one.seed(2147483647);
            all.seed(2147483647);
            int sum = 0;
            for (int morning = 0; morning < 99; morning++) {
                int had = one.drift(1);
                Check.due("had of a morning", had, one.told(8));
                sum += had;
            }
            Check.due("drift(99) by law " + law, all.drift(99), sum);
            Check.due("the seed behind", all.seed(1), one.seed(1));
        }
    }

    private static void driftRefused() {
        HeaviestFirst x = Check.town(TWO, 2);
        x.stones(0, 4);
        Check.due("drift(0)", x.drift(0), Check.OUTSIDE);
        Check.due("drift(100)", x.drift(100), Check.OUTSIDE);
        Check.due("drift(-1)", x.drift(-1), Check.OUTSIDE);
        Check.due("refused: told(6)", x.told(6), 4);
        Check.due("refused: seed", x.seed(0), 0);
        x = Check.town("place 0 0;", 0);
        Check.due("no letters: drift(1)", x.drift(1), Check.NOT);
        Check.due("no letters: drift(99)", x.drift(99), Check.NOT);
        Check.due("no letters: drift(100)", x.drift(100), Check.OUTSIDE);
        Check.due("no letters: drift(0)", x.drift(0), Check.OUTSIDE);
    }
}
