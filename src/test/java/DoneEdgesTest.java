/** Promises 10 to 13 and the draws, at the edges that the document names; each under the words that name it. */
public final class DoneEdgesTest {
    private static final int LEAST = Integer.MIN_VALUE, MOST = Integer.MAX_VALUE;
    private static final long TWO_TO_31 = 2147483648L;

    public static void main(String[] args) {
        stones();
        stonesOfFewerLetters();
        law();
        price();
        driftAsked();
        driftWithoutLetters();
        seedIsLeftOver();
        drawsAtTheirEnds();
        drawsOfOnePlace();
        noStonesThen();
        mornings();
        Check.end("DoneEdgesTest");
    }

    private static void stones() {
        HeaviestFirst x = Check.town(Told.seven(), 7);
        for (int l = 0; l < 7; l++) {
            Check.sentence("Promise 10: STONES in a LETTER become n: how many they were");
            int were = 0;
            for (int n : new int[] {9, 0, 1, 8, 9, 9, 5}) {
                Check.due("stones(" + l + ", " + n + ")", x.stones(l, n), were);
                Check.due("letter(" + l + ", 4)", x.letter(l, 4), n);
                were = n;
            }
            Check.sentence("Promise 10: OUTSIDE (0 .. 9)");
            for (int n : new int[] {-1, 10, 11, LEAST, MOST}) {
                Check.due("stones(" + l + ", " + n + ")", x.stones(l, n), Check.OUTSIDE);
                Check.due("letter(" + l + ", 4)", x.letter(l, 4), 5);
            }
        }
        Check.sentence("Promise 10: UNKNOWN, and ahead of OUTSIDE");
        for (int l : new int[] {-1, 7, 8, LEAST, MOST}) {
            for (int n : new int[] {0, 9, -1, 10}) {
                Check.due("stones(" + l + ", " + n + ")", x.stones(l, n), Check.UNKNOWN);
            }
        }
        Check.due("STONES in all", x.told(6), 35);
    }

    private static void stonesOfFewerLetters() {
        Check.sentence("UNKNOWN (a LETTER that there is not)");
        for (int letters = 0; letters < 7; letters++) {
            HeaviestFirst x = Check.town(Told.places(7) + Told.letters(letters, 7), letters);
            Check.due("stones(" + letters + ", 0)", x.stones(letters, 0), Check.UNKNOWN);
            if (letters > 0) {
                Check.due("stones of the last one", x.stones(letters - 1, 9), 0);
            }
        }
    }

    private static void law() {
        Check.sentence("Promise 11: LAW becomes v (0 .. 2): what it was");
        HeaviestFirst x = new HeaviestFirst();
        int was = 0;
        for (int v : new int[] {2, 0, 1, 1, 2, 2, 0, 0}) {
            Check.due("law(" + v + ")", x.law(v), was);
            Check.due("LAW", x.told(4), v);
            was = v;
        }
        x.law(2);
        Check.sentence("Promise 11: OUTSIDE");
        for (int v : new int[] {-1, 3, 4, LEAST, MOST}) {
            Check.due("law(" + v + ")", x.law(v), Check.OUTSIDE);
            Check.due("LAW", x.told(4), 2);
        }
    }

    private static void price() {
        Check.sentence("Promise 12: C becomes v (0 .. 99): what it was");
        HeaviestFirst x = Check.town("stone 50;", 0);
        int was = 50;
        for (int v : new int[] {99, 0, 98, 1, 0, 99, 99}) {
            Check.due("price(" + v + ")", x.price(v), was);
            Check.due("C", x.told(2), v);
            was = v;
        }
        Check.sentence("Promise 12: OUTSIDE");
        for (int v : new int[] {-1, 100, 101, LEAST, MOST}) {
            Check.due("price(" + v + ")", x.price(v), Check.OUTSIDE);
            Check.due("C", x.told(2), 99);
        }
    }

    private static void driftAsked() {
        HeaviestFirst x = Check.town(Told.seven(), 7);
        x.stones(3, 9);
        x.seed(77);
        Check.sentence("Promise 13: n mornings (1 .. 99) .. OUTSIDE");
        for (int n : new int[] {0, -1, 100, 101, LEAST, MOST}) {
            Check.due("drift(" + n + ")", x.drift(n), Check.OUTSIDE);
        }
        Check.due("THE SEED stays", x.seed(77), 77);
        Check.due("STONES stay", x.told(6), 9);
        for (int l = 0; l < 7; l++) {
            Check.due("W stays", x.letter(l, 1), 30 - l);
            Check.due("PLACE stays", x.letter(l, 0), l);
        }
        Check.holds("drift(1) is done", x.drift(1) >= 0);
        Check.due("THE SEED is 14 draws on", x.seed(77), seedBehind(77, 14));
        Check.holds("drift(99) is done", x.drift(99) >= 0);
        Check.due("THE SEED is 99 times 14 draws on", x.seed(77), seedBehind(77, 99 * 14));
        Check.holds("drift(2) is done", x.drift(2) >= 0);
        Check.due("THE SEED is 28 draws on", x.seed(77), seedBehind(77, 28));
    }

    private static void driftWithoutLetters() {
        for (HeaviestFirst x : new HeaviestFirst[] {new HeaviestFirst(), Check.town("", 0), Check.town(Told.places(7), 0)}) {
            x.seed(5);
            Check.sentence("Promise 13: NOT: no LETTERS");
            Check.due("drift(1)", x.drift(1), Check.NOT);
            Check.due("drift(99)", x.drift(99), Check.NOT);
            Check.sentence("Promise 13: OUTSIDE ahead of NOT");
            Check.due("drift(0)", x.drift(0), Check.OUTSIDE);
            Check.due("drift(100)", x.drift(100), Check.OUTSIDE);
            Check.due("THE SEED stays", x.seed(5), 5);
        }
    }

    /** THE SEED behind so many draws, counted without any wrap-around of its own. */
    private static int seedBehind(int seed, int draws) {
        long now = seed;
        for (int k = 0; k < draws; k++) {
            now = (now * 1103515245L + 12345L) % TWO_TO_31;
        }
        return (int) now;
    }

    private static void seedIsLeftOver() {
        Check.sentence("it becomes it times 1103515245 and 12345, left over by 2 to the 31");
        // the greatest one, what becomes 0 and 2 to the 31 less 1, what becomes 65535 and 65536 (/ 65536: 0 and 1)
        int[] seeds = {0, 1, 2, MOST, MOST - 1, 1 << 30, 2088216195, 230538014, 2032319262, 1742513795};
        for (int seed : seeds) {
            HeaviestFirst x = Check.town(Told.places(7) + Told.letters(1, 7), 1);
            x.seed(seed);
            x.drift(1);
            int first = seedBehind(seed, 1);
            int second = seedBehind(seed, 2);
            Check.due("W drawn from " + seed, x.letter(0, 1), first / 65536 % 99 + 1);
            Check.due("PLACE drawn from " + seed, x.letter(0, 0), second / 65536 % 7);
            Check.due("THE SEED behind " + seed, x.seed(0), second);
        }
        HeaviestFirst x = Check.town(Told.places(2) + Told.letters(1, 2), 1);
        x.seed(MOST);
        x.drift(1);
        // 1043980748 / 65536 is 15929, 288979989 / 65536 is 4409
        Check.due("W", x.letter(0, 1), 15929 - 160 * 99 + 1);
        Check.due("PLACE", x.letter(0, 0), 1);
        Check.due("THE SEED", x.seed(0), 288979989);
        x.seed(2088216195);
        x.drift(1);
        Check.due("W by 0", x.letter(0, 1), 1);
        Check.due("THE SEED becomes 0 and 12345", x.seed(230538014), 12345);
        x.drift(1);
        Check.due("W by 32767", x.letter(0, 1), 32767 - 330 * 99 + 1);
        Check.sentence("/ cuts towards 0");
        x.seed(2032319262);
        x.drift(1);
        Check.due("W by 65535 / 65536", x.letter(0, 1), 1);
        x.seed(1742513795);
        x.drift(1);
        Check.due("W by 65536 / 65536", x.letter(0, 1), 2);
    }

    private static void drawsAtTheirEnds() {
        Check.sentence("its W becomes a DRAW of 99 and 1, its PLACE a DRAW of PLACES");
        // found by search: the first DRAW of 99 is 0, 0, 98, 98, the next one of 7 is 0, 6, 0, 6
        int[][] due = {{898, 1, 0}, {0, 1, 6}, {303, 99, 0}, {449, 99, 6}};
        HeaviestFirst x = Check.town(Told.places(7) + Told.letters(1, 7), 1);
        for (int[] row : due) {
            x.seed(row[0]);
            x.drift(1);
            Check.due("W by " + row[0], x.letter(0, 1), row[1]);
            Check.due("PLACE by " + row[0], x.letter(0, 0), row[2]);
        }
        boolean[] places = new boolean[7];
        x = Check.town(Told.seven(), 7);
        for (int k = 0; k < 25; k++) {
            x.drift(99);
            for (int l = 0; l < 7; l++) {
                int weight = x.letter(l, 1);
                int place = x.letter(l, 0);
                Check.holds("W " + weight + " from 1 to 99", weight >= 1 && weight <= 99);
                Check.holds("PLACE " + place + " is there", place >= 0 && place < 7);
                places[Math.max(0, Math.min(6, place))] = true;
            }
        }
        for (int p = 0; p < 7; p++) {
            Check.holds("PLACE " + p + " is drawn at times", places[p]);
        }
    }

    private static void drawsOfOnePlace() {
        Check.sentence("its PLACE a DRAW of PLACES: of one PLACE, too");
        HeaviestFirst x = Check.town("place 5 5;letter 0 3 0 4;letter 0 9 0 5;", 2);
        Check.due("all at the office at minute 0", x.drift(99), 99 * 9);
        Check.due("PLACE", x.letter(0, 0), 0);
        Check.due("PLACE", x.letter(1, 0), 0);
        Check.due("a DRAW of one PLACE is a DRAW, too", x.seed(0), seedBehind(0, 99 * 4));
    }

    private static void noStonesThen() {
        Check.sentence("(no STONES then)");
        HeaviestFirst x = Check.town("place 5 5;letter 0 3 0 4;letter 0 9 0 5;stone 99;", 2);
        x.stones(0, 9);
        x.stones(1, 9);
        Check.due("HAD without any STONES", x.drift(1), 9);
        Check.due("STONES in all", x.told(6), 0);
        Check.due("C stays", x.told(2), 99);
        // all else stays as it is
        x.stones(0, 1);
        x.came(1);
        x.write(0, 0);
        x.keep(1);
        x.law(2);
        x.drift(1);
        Check.due("LAW stays", x.told(4), 2);
        Check.due("TOLD stays", x.told(9), 1);
        Check.due("THE BOOK stays", x.told(10), 1);
        Check.due("the IMAGE stays", x.goBack(1), 1);
        Check.due("its STONES", x.told(6), 1);
    }

    private static void mornings() {
        Check.sentence("all that is HAD is added up");
        // at most mornings some are in time and some are late
        StringBuilder text = new StringBuilder(Told.line(7));
        for (int l = 0; l < 7; l++) {
            text.append("letter 0 1 ").append(40 + 10 * l).append(' ').append(20 + l).append(';');
        }
        for (int law = 0; law <= 2; law++) {
            HeaviestFirst one = Check.town(text.toString(), 7);
            HeaviestFirst all = Check.town(text.toString(), 7);
            one.law(law);
            all.law(law);
            one.seed(MOST);
            all.seed(MOST);
            int sum = 0;
            for (int morning = 0; morning < 99; morning++) {
                int had = one.drift(1);
                Check.due("HAD of a morning by LAW " + law, had, one.told(8));
                sum += had;
            }
            Check.due("drift(99) by LAW " + law, all.drift(99), sum);
            for (int l = 0; l < 7; l++) {
                Check.due("W behind", all.letter(l, 1), one.letter(l, 1));
                Check.due("PLACE behind", all.letter(l, 0), one.letter(l, 0));
            }
        }
    }
}
