/** Promises 21 to 28, at the edges that the document names; each under the words that name it. */
public final class OrdersEdgesTest {
    private static final int LEAST = Integer.MIN_VALUE, MOST = Integer.MAX_VALUE;

    public static void main(String[] args) {
        cameAsked();
        cameOnce();
        endsAsked();
        endsOfNotAllTold();
        endsFromOneTo108();
        endsThereAreNone();
        writeAsked();
        bookOfThirty();
        tear();
        judge();
        seedAsked();
        keepAsked();
        goBackAsked();
        imagesKeep();
        imagesOfNothing();
        Check.end("OrdersEdgesTest");
    }

    private static HeaviestFirst seven() {
        return Check.town(Told.line(7) + Told.letters(7, 7), 7);
    }

    private static void cameAsked() {
        for (int letters = 0; letters <= 7; letters++) {
            HeaviestFirst x = Check.town(Told.line(7) + Told.letters(letters, 7), letters);
            Check.sentence("Promise 21: UNKNOWN");
            for (int l : new int[] {letters, 7, -1, LEAST, MOST}) {
                Check.due("came(" + l + ") of " + letters, x.came(l), Check.UNKNOWN);
            }
            Check.due("nothing TOLD", x.told(9), 0);
            Check.sentence("Promise 21: A LETTER behind TOLD: how many");
            for (int l = letters - 1; l >= 0; l--) {
                Check.due("came(" + l + ") of " + letters, x.came(l), letters - l);
            }
            Check.due("all TOLD", x.told(9), letters);
            Check.due("came behind all", x.came(letters), Check.UNKNOWN);
        }
    }

    private static void cameOnce() {
        HeaviestFirst x = seven();
        int[] row = {3, 6, 0, 1, 5, 2, 4};
        for (int k = 0; k < 7; k++) {
            Check.due("came", x.came(row[k]), k + 1);
            Check.sentence("TOLD: .. (each once); Promise 21: NOT: it is there");
            for (int there = 0; there <= k; there++) {
                Check.due("came(" + row[there] + ") again", x.came(row[there]), Check.NOT);
            }
            Check.due("LETTERS of TOLD", x.told(9), k + 1);
        }
        x.tear();
        Check.sentence("Promise 24: nothing is TOLD");
        for (int k = 0; k < 7; k++) {
            Check.due("came behind tear()", x.came(row[6 - k]), k + 1);
        }
    }

    private static void endsAsked() {
        HeaviestFirst x = seven();
        for (int law = 0; law <= 1; law++) {
            x.law(law);
            Check.sentence("Promise 22: UNKNOWN, OUTSIDE");
            for (int l : new int[] {-1, 7, LEAST, MOST}) {
                for (int what : new int[] {0, 1, -1, 2}) {
                    Check.due("ends(" + l + ", " + what + ")", x.ends(l, what), Check.UNKNOWN);
                }
            }
            for (int what : new int[] {-1, 2, LEAST, MOST}) {
                Check.due("ends(0, " + what + ")", x.ends(0, what), Check.OUTSIDE);
                Check.due("ends(6, " + what + ")", x.ends(6, what), Check.OUTSIDE);
            }
        }
        x.law(2);
        Check.sentence("Promise 22: NOT: LAW 2");
        for (int l = 0; l < 7; l++) {
            Check.due("ends(" + l + ", 0)", x.ends(l, 0), Check.NOT);
            Check.due("ends(" + l + ", 1)", x.ends(l, 1), Check.NOT);
            x.came(l);
        }
        Check.due("NOT, all TOLD", x.ends(6, 1), Check.NOT);
        Check.sentence("Promise 22: UNKNOWN, OUTSIDE, NOT: the first in this order");
        Check.due("ends(7, 2)", x.ends(7, 2), Check.UNKNOWN);
        Check.due("ends(7, 0)", x.ends(7, 0), Check.UNKNOWN);
        Check.due("ends(6, 2)", x.ends(6, 2), Check.OUTSIDE);
        x = Check.town(Told.line(7), 0);
        Check.due("ends(0, 0) without LETTERS", x.ends(0, 0), Check.UNKNOWN);
    }

    private static void endsOfNotAllTold() {
        Check.sentence("NONE: .. not all LETTERS are TOLD");
        HeaviestFirst x = seven();
        for (int told = 0; told <= 7; told++) {
            for (int l = 0; l < 7; l++) {
                boolean all = told == 7;
                // they are TOLD as they are: 30, 29, .. 24; each may be like the one ahead and like the one behind
                Check.due("least of " + l, x.ends(l, 0), !all ? Check.NONE : l == 6 ? 1 : 29 - l);
                Check.due("greatest of " + l, x.ends(l, 1), !all ? Check.NONE : l == 0 ? 108 : 31 - l);
            }
            x.came(told);
        }
    }

    private static void endsAre(HeaviestFirst x, int l, int least, int greatest) {
        Check.due("ends(" + l + ", 0)", x.ends(l, 0), least);
        Check.due("ends(" + l + ", 1)", x.ends(l, 1), greatest);
    }

    private static void endsFromOneTo108() {
        Check.sentence("the least, the greatest from 1 to 108");
        HeaviestFirst x = Check.town("place 0 0;letter 0 50 9 9;", 1);
        x.came(0);
        for (int law = 0; law <= 1; law++) {
            x.law(law);
            endsAre(x, 0, 1, 108);
        }
        // next to 1 and next to 108: one HEAVY alone, or none
        x = Check.town("place 0 0;letter 0 1 9 9;letter 0 1 9 9;", 2);
        x.came(0);
        x.came(1);
        endsAre(x, 0, 1, 108);
        endsAre(x, 1, 1, 1);
        x.law(1);
        endsAre(x, 0, 1, 1);
        endsAre(x, 1, 1, 108);
        x.tear();
        x.came(1);
        x.came(0);
        endsAre(x, 0, 2, 108);
        endsAre(x, 1, Check.NONE, Check.NONE);
        x.law(0);
        endsAre(x, 0, Check.NONE, Check.NONE);
        endsAre(x, 1, 2, 108);
        x = Check.town("place 0 0;letter 0 99 9 9;letter 0 99 9 9;", 2);
        x.came(0);
        x.came(1);
        for (int n = 0; n <= 9; n++) {
            x.stones(0, n);
            x.stones(1, n);
            endsAre(x, 0, 99 + n, 108);
            endsAre(x, 1, 1, 99 + n);
        }
        x.tear();
        x.came(1);
        x.came(0);
        endsAre(x, 0, 1, 107);
        endsAre(x, 1, Check.NONE, Check.NONE);
        x.law(1);
        endsAre(x, 0, Check.NONE, Check.NONE);
        endsAre(x, 1, 1, 107);
    }

    private static void endsThereAreNone() {
        Check.sentence("NONE: there is none");
        HeaviestFirst x = Check.town("place 0 0;letter 0 40 9 9;letter 0 50 9 9;letter 0 60 9 9;", 3);
        x.came(1);
        x.came(2);
        x.came(0);
        // 1 and 2 have changed places, so one of them may be what the other one is at most, and 0 cannot mend it
        endsAre(x, 0, Check.NONE, Check.NONE);
        endsAre(x, 1, 60, 108);
        endsAre(x, 2, 41, 50);
        // by LAW 1 0 alone is out of its place: behind 60 it would have to be the heavier one
        x.law(1);
        endsAre(x, 0, 61, 108);
        endsAre(x, 1, Check.NONE, Check.NONE);
        endsAre(x, 2, Check.NONE, Check.NONE);
    }

    private static void writeAsked() {
        HeaviestFirst x = seven();
        Check.sentence("Promise 23: (minute 0 .. 9999): how many");
        int entries = 0;
        for (int minute : new int[] {0, 1, 9998, 9999}) {
            for (int l : new int[] {0, 6}) {
                entries++;
                Check.due("write(" + l + ", " + minute + ")", x.write(l, minute), entries);
            }
        }
        Check.sentence("Promise 23: OUTSIDE");
        for (int minute : new int[] {-1, 10000, LEAST, MOST}) {
            Check.due("write(0, " + minute + ")", x.write(0, minute), Check.OUTSIDE);
            Check.due("write(6, " + minute + ")", x.write(6, minute), Check.OUTSIDE);
        }
        Check.sentence("Promise 23: UNKNOWN, and ahead of OUTSIDE");
        for (int l : new int[] {-1, 7, LEAST, MOST}) {
            for (int minute : new int[] {0, 9999, -1, 10000}) {
                Check.due("write(" + l + ", " + minute + ")", x.write(l, minute), Check.UNKNOWN);
            }
        }
        Check.due("entries", x.told(10), entries);
        Check.due("without LETTERS", Check.town(Told.line(7), 0).write(0, 0), Check.UNKNOWN);
        Check.due("the sixth of five", Check.town(Told.line(7) + Told.letters(5, 7), 5).write(5, 0), Check.UNKNOWN);
    }

    private static void bookOfThirty() {
        HeaviestFirst x = seven();
        Check.sentence("THE BOOK is a row of LETTERS and minutes (30 at most)");
        for (int k = 0; k < 30; k++) {
            Check.due("write", x.write(k % 7, 10 * (k % 7)), k + 1);
        }
        Check.due("entries", x.told(10), 30);
        Check.due("nothing WRONG in thirty", x.judge(), Check.NONE);
        Check.sentence("Promise 23: FULL (30)");
        Check.due("the 31st", x.write(0, 0), Check.FULL);
        Check.due("the 31st, that would be WRONG", x.write(6, 9999), Check.FULL);
        Check.due("entries", x.told(10), 30);
        Check.due("judge()", x.judge(), Check.NONE);
        Check.sentence("Promise 23: UNKNOWN, OUTSIDE, FULL: the first in this order");
        Check.due("write(7, 10000) at 30", x.write(7, 10000), Check.UNKNOWN);
        Check.due("write(7, 0) at 30", x.write(7, 0), Check.UNKNOWN);
        Check.due("write(6, 10000) at 30", x.write(6, 10000), Check.OUTSIDE);
        Check.due("write(6, -1) at 30", x.write(6, -1), Check.OUTSIDE);
        Check.sentence("Promise 24: THE BOOK is empty");
        Check.due("tear()", x.tear(), 30);
        Check.due("write behind tear()", x.write(0, 1), 1);
        Check.due("judge()", x.judge(), 0);
    }

    private static void tear() {
        Check.sentence("Promise 24: how many both had");
        Check.due("tear() of nothing", new HeaviestFirst().tear(), 0);
        HeaviestFirst x = seven();
        Check.due("tear() of nothing", x.tear(), 0);
        for (int l = 0; l < 7; l++) {
            x.came(l);
        }
        Check.due("tear() of what is TOLD", x.tear(), 7);
        Check.due("TOLD", x.told(9), 0);
        x.write(0, 0);
        Check.due("tear() of THE BOOK", x.tear(), 1);
        Check.due("THE BOOK", x.told(10), 0);
        for (int k = 0; k < 30; k++) {
            x.write(0, 1);
        }
        for (int l = 0; l < 7; l++) {
            x.came(l);
        }
        Check.due("tear() of both", x.tear(), 37);
        Check.due("tear() again", x.tear(), 0);
        Check.due("judge()", x.judge(), Check.NONE);
        Check.due("ends(0, 0)", x.ends(0, 0), Check.NONE);
    }

    private static void judge() {
        Check.sentence("WRONG: the first by which a LETTER comes at another minute; NONE");
        Check.due("judge() of an empty BOOK", new HeaviestFirst().judge(), Check.NONE);
        HeaviestFirst x = seven();
        Check.due("judge() of an empty BOOK", x.judge(), Check.NONE);
        // the LETTERS come at 0, 10, .. 60
        for (int k = 0; k < 29; k++) {
            x.write(k % 7, 10 * (k % 7));
            Check.due("judge() of " + (k + 1), x.judge(), Check.NONE);
        }
        x.write(1, 11);
        Check.due("judge() of the thirtieth", x.judge(), 29);
        x.tear();
        x.write(1, 9);
        x.write(1, 11);
        Check.due("a minute too early", x.judge(), 0);
        x.tear();
        x.write(0, 0);
        x.write(1, 11);
        x.write(2, 0);
        Check.due("the first of two", x.judge(), 1);
        Check.sentence("WRONG: by the WALK as it is");
        x.stones(1, 9);
        Check.due("1 first at 10, 0 at 20", x.judge(), 0);
        x.stones(1, 0);
        Check.due("as it was", x.judge(), 1);
    }

    private static void seedAsked() {
        Check.sentence("Promise 26: THE SEED becomes v (0 .. 2147483647): what it was");
        HeaviestFirst x = new HeaviestFirst();
        int was = 0;
        for (int v : new int[] {MOST, 0, 1, MOST - 1, 65536, 0, 0, 12345}) {
            Check.due("seed(" + v + ")", x.seed(v), was);
            was = v;
        }
        Check.sentence("Promise 26: OUTSIDE");
        for (int v : new int[] {-1, -2, LEAST, LEAST + 1}) {
            Check.due("seed(" + v + ")", x.seed(v), Check.OUTSIDE);
        }
        Check.due("THE SEED stays", x.seed(0), 12345);
    }

    private static void keepAsked() {
        for (HeaviestFirst x : new HeaviestFirst[] {new HeaviestFirst(), seven()}) {
            Check.sentence("Promise 27: UNKNOWN");
            for (int i : new int[] {-1, 2, 3, LEAST, MOST}) {
                Check.due("keep(" + i + ")", x.keep(i), Check.UNKNOWN);
            }
            Check.sentence("Promise 28: UNKNOWN");
            for (int i : new int[] {-1, 2, 3, LEAST, MOST}) {
                Check.due("goBack(" + i + ")", x.goBack(i), Check.UNKNOWN);
            }
            Check.sentence("Promise 28: NOT: it was not kept");
            Check.due("goBack(0)", x.goBack(0), Check.NOT);
            Check.due("goBack(1)", x.goBack(1), Check.NOT);
            Check.sentence("Promise 27: IMAGE i becomes what is so: 1");
            Check.due("keep(0)", x.keep(0), 1);
            Check.due("keep(1)", x.keep(1), 1);
            Check.due("keep(0) again", x.keep(0), 1);
        }
    }

    private static void goBackAsked() {
        for (int kept = 0; kept <= 1; kept++) {
            HeaviestFirst x = seven();
            x.keep(kept);
            Check.sentence("Promise 28: NOT: it was not kept: each IMAGE for itself");
            Check.due("goBack(" + (1 - kept) + ")", x.goBack(1 - kept), Check.NOT);
            Check.sentence("Promise 28: What is so becomes IMAGE i: 1");
            Check.due("goBack(" + kept + ")", x.goBack(kept), 1);
            Check.due("goBack(" + kept + ") again", x.goBack(kept), 1);
            Check.sentence("Promise 3: (all else is as it was): a FAULT leaves the IMAGES");
            Check.feed(x, "stone");
            Check.due("town()", x.town(), -11);
            Check.due("goBack(" + kept + ")", x.goBack(kept), 1);
            Check.sentence("Promise 3: IMAGES are gone");
            Check.due("town()", x.town(), 0);
            Check.due("goBack(" + kept + ")", x.goBack(kept), Check.NOT);
            Check.due("keep(" + kept + ")", x.keep(kept), 1);
            Check.due("goBack(" + kept + ")", x.goBack(kept), 1);
        }
    }

    private static void imagesKeep() {
        HeaviestFirst x = seven();
        for (int l = 0; l < 7; l++) {
            x.stones(l, l + 2);
        }
        x.law(2);
        x.price(99);
        x.seed(MOST);
        x.keep(0);
        x.law(0);
        x.price(0);
        x.seed(3);
        x.drift(99);
        x.keep(1);
        int[] weights = new int[7];
        int[] places = new int[7];
        for (int l = 0; l < 7; l++) {
            weights[l] = x.letter(l, 1);
            places[l] = x.letter(l, 0);
        }
        int seed = x.seed(4);
        x.came(5);
        x.write(5, 55);
        Check.sentence("IMAGES 0, 1 keep W, PLACES and STONES of LETTERS, LAW, C, THE SEED");
        for (int turn = 0; turn < 2; turn++) {
            Check.due("goBack(0)", x.goBack(0), 1);
            for (int l = 0; l < 7; l++) {
                Check.due("PLACE of " + l, x.letter(l, 0), l);
                Check.due("W of " + l, x.letter(l, 1), 30 - l);
                Check.due("STONES of " + l, x.letter(l, 4), l + 2);
            }
            Check.due("LAW", x.told(4), 2);
            Check.due("C", x.told(2), 99);
            Check.due("THE SEED", x.seed(4), MOST);
            Check.due("goBack(1)", x.goBack(1), 1);
            for (int l = 0; l < 7; l++) {
                Check.due("PLACE of " + l, x.letter(l, 0), places[l]);
                Check.due("W of " + l, x.letter(l, 1), weights[l]);
                Check.due("STONES of " + l, x.letter(l, 4), 0);
            }
            Check.due("LAW", x.told(4), 0);
            Check.due("C", x.told(2), 0);
            Check.due("THE SEED", x.seed(4), seed);
        }
        Check.sentence("an IMAGE keeps nothing else");
        Check.due("TOLD", x.told(9), 1);
        Check.due("THE BOOK", x.told(10), 1);
        for (int l = 0; l < 7; l++) {
            Check.due("DUE of " + l, x.letter(l, 2), 900 + l);
            Check.due("WORTH of " + l, x.letter(l, 3), 50 + l);
        }
    }

    private static void imagesOfNothing() {
        Check.sentence("Promise 27: IMAGE i becomes what is so: without LETTERS, too");
        HeaviestFirst x = new HeaviestFirst();
        x.law(1);
        x.price(7);
        x.seed(9);
        Check.due("keep(1)", x.keep(1), 1);
        x.law(2);
        x.price(8);
        x.seed(10);
        Check.due("goBack(0)", x.goBack(0), Check.NOT);
        Check.due("LAW", x.told(4), 2);
        Check.due("goBack(1)", x.goBack(1), 1);
        Check.due("LAW", x.told(4), 1);
        Check.due("C", x.told(2), 7);
        Check.due("THE SEED", x.seed(0), 9);
        Check.due("LETTERS", x.told(1), 0);
    }
}
