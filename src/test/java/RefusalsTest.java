/**
 * "REFUSALS, of several the first in this order ... What is refused changes nothing.": every call with arguments at and
 * beyond every bound, on objects in several states; and calls that only tell change nothing either.
 */
public final class RefusalsTest {
    private static final int LEAST = Integer.MIN_VALUE, MOST = Integer.MAX_VALUE;
    private static final int[] FIRST = {LEAST, -4, -3, -2, -1, 0, 1, 2, 3, 6, 7, 8, 9, 10, 11, 20, 21, 99, 100, 127, 128, MOST};
    private static final int[] SECOND = {LEAST, -1, 0, 1, 2, 8, 9, 10, 9999, 10000, MOST};
    private static final String[] CALLS = {"feed", "told", "place", "letter", "far", "order", "stones", "law", "price",
        "drift", "shortest", "inTime", "answer", "rests", "agreed", "two", "came", "ends", "write", "seed", "keep",
        "goBack", "fault", "best", "judge"};
    private static final String TELL = " fault told place letter far order shortest inTime answer rests best agreed two"
            + " ends judge ";

    public static void main(String[] args) {
        constants();
        new State(0, 0, 0, 0, 0, 0, 0).tryAll();
        new State(0, 3, 0, 18, 2, 0, 2).tryAll();
        new State(7, 7, 7, 400, 0, 30, 1).tryAll();
        new State(3, 4, 2, 397, 1, 29, 0).tryAll();
        new State(2, 6, 0, 393, 2, 30, 2).tryAll();
        townsRefused();
        Check.end("RefusalsTest");
    }

    private static void constants() {
        Check.sentence("They are far below all that is counted: -1000000001 and on");
        Check.due("NONE", HeaviestFirst.NONE, -1);
        Check.due("UNKNOWN", HeaviestFirst.UNKNOWN, -1000000001);
        Check.due("OUTSIDE", HeaviestFirst.OUTSIDE, -1000000002);
        Check.due("NOT", HeaviestFirst.NOT, -1000000003);
        Check.due("FULL", HeaviestFirst.FULL, -1000000004);
    }

    /** A text with a fault is no refusal, but all is as it was but for the text and the place of the fault. */
    private static void townsRefused() {
        Check.sentence("Promise 3: -10 less the number of its FAULT (all else is as it was)");
        String[] texts = {"x", "place 1 1;letter 0 5 5 5;stone 9;stone", "place 9 9;place 100 1;",
            "letter 0 1 1 1;", "place 1 1;", "stone 8;place"};
        int[] due = {-11, -13, -12, -12, 0, -11};
        for (int k = 0; k < texts.length; k++) {
            for (int p = 0; p <= 2; p++) {
                HeaviestFirst x = new State(p + 2, p + 3, p, 0, p, 3 * p, p).made();
                HeaviestFirst twin = new State(p + 2, p + 3, p, 0, p, 3 * p, p).made();
                Check.feed(x, texts[k]);
                Check.due("town() of " + texts[k], x.town(), due[k]);
                if (due[k] < 0) {
                    // a fault of its own, so that both tell the same of it
                    Check.feed(x, ";");
                    Check.feed(twin, ";");
                    Check.due("town()", x.town(), twin.town());
                    String was = Twin.all(twin);
                    String is = Twin.all(x);
                    Check.holds("all is as it was behind " + texts[k] + ": " + Twin.difference(was, is), was.equals(is));
                }
            }
        }
    }

    /** What stands in an object, told by the numbers with which it is made, and what it is to refuse. */
    private static final class State {
        final int letters, places, told, bytes, law, entries, images;

        /** Of images 0 keeps none, 1 both, 2 the second one alone. */
        State(int letters, int places, int told, int bytes, int law, int entries, int images) {
            this.letters = letters;
            this.places = places;
            this.told = told;
            this.bytes = bytes;
            this.law = law;
            this.entries = entries;
            this.images = images;
        }

        private int weight(int l) {
            return l % 3 == 0 ? 20 : 10 + l % 2;
        }

        private int stonesIn(int l) {
            return l == 1 ? 9 : l == 2 ? 1 : 0;
        }

        HeaviestFirst made() {
            StringBuilder text = new StringBuilder(Told.line(places));
            for (int l = 0; l < letters; l++) {
                text.append("letter ").append(l % places).append(' ').append(weight(l)).append(" 70 ").append(20 + l)
                    .append(';');
            }
            HeaviestFirst x = Check.town(text.toString(), letters);
            x.law(law);
            x.price(3);
            x.seed(4711);
            for (int l = 0; l < letters; l++) {
                x.stones(l, stonesIn(l));
            }
            for (int l = 0; l < told; l++) {
                x.came(letters - 1 - l);
            }
            for (int k = 0; k < entries; k++) {
                x.write(k % letters, 10 * k);
            }
            if (images == 1) {
                x.keep(0);
            }
            if (images > 0) {
                x.price(4);
                x.keep(1);
                x.price(5);
            }
            // a clause that still lacks its end, and blanks ahead of it
            String open = "place 1 2;place 34";
            if (bytes > 0) {
                Check.feed(x, " ".repeat(bytes - open.length()) + open);
            }
            return x;
        }

        void tryAll() {
            Check.sentence("REFUSALS, of several the first in this order: UNKNOWN, OUTSIDE, NOT, FULL");
            Check.due("bytes of the state", made().told(3), bytes);
            String as = Twin.all(made());
            for (String call : CALLS) {
                for (int a : FIRST) {
                    for (int b : SECOND) {
                        tryOne(call, a, b, as);
                        if (!takesTwo(call)) {
                            break;
                        }
                    }
                    if (takesNone(call)) {
                        break;
                    }
                }
            }
        }

        private static boolean takesTwo(String call) {
            return " place letter far stones agreed ends write ".contains(" " + call + " ");
        }

        private static boolean takesNone(String call) {
            return " fault best judge ".contains(" " + call + " ");
        }

        private void tryOne(String call, int a, int b, String as) {
            HeaviestFirst x = made();
            int refusal = refusal(call, a, b);
            int answer = ask(x, call, a, b);
            String name = call + "(" + a + ", " + b + ") by LAW " + law + " of " + letters;
            if (refusal == 0) {
                Check.holds(name + " is not refused: " + answer, answer > Check.UNKNOWN);
            } else {
                Check.due(name, answer, refusal);
            }
            if (refusal != 0 || TELL.contains(" " + call + " ")) {
                String is = Twin.all(x);
                Check.holds("all is as it was behind " + name + ": " + Twin.difference(as, is), is.equals(as));
            }
        }

        /** The document's refusals in their order; 0: it is not refused. */
        private int refusal(String call, int a, int b) {
            boolean noLetter = a < 0 || a >= letters;
            switch (call) {
                case "feed": return out(a, 1, 8) ? Check.OUTSIDE : bytes + a > 400 ? Check.FULL : 0;
                case "told": return out(a, 0, 10) ? Check.OUTSIDE : 0;
                case "place": return out(a, 0, places - 1) ? Check.UNKNOWN : out(b, 0, 1) ? Check.OUTSIDE : 0;
                case "letter": return noLetter ? Check.UNKNOWN : out(b, 0, 8) ? Check.OUTSIDE : 0;
                case "far": return out(a, 0, places - 1) || out(b, 0, places - 1) ? Check.UNKNOWN : 0;
                case "stones": return noLetter ? Check.UNKNOWN : out(b, 0, 9) ? Check.OUTSIDE : 0;
                case "law": return out(a, 0, 2) ? Check.OUTSIDE : 0;
                case "price": return out(a, 0, 99) ? Check.OUTSIDE : 0;
                case "drift": return out(a, 1, 99) ? Check.OUTSIDE : letters == 0 ? Check.NOT : 0;
                case "shortest": case "inTime": return law == 2 || letters == 0 ? Check.NOT : 0;
                case "answer": return noLetter ? Check.UNKNOWN : 0;
                case "rests": return out(a, -3, letters - 1) ? Check.UNKNOWN : 0;
                case "agreed": return agreed(a, b);
                case "two": return out(a, 0, 1) ? Check.OUTSIDE : 0;
                case "came": return noLetter ? Check.UNKNOWN : a >= letters - told ? Check.NOT : 0;
                case "ends": return noLetter ? Check.UNKNOWN : out(b, 0, 1) ? Check.OUTSIDE : law == 2 ? Check.NOT : 0;
                case "write": return noLetter ? Check.UNKNOWN : out(b, 0, 9999) ? Check.OUTSIDE
                        : entries == 30 ? Check.FULL : 0;
                case "seed": return a < 0 ? Check.OUTSIDE : 0;
                case "keep": return out(a, 0, 1) ? Check.UNKNOWN : 0;
                case "goBack": return out(a, 0, 1) ? Check.UNKNOWN
                        : images == 0 || images == 2 && a == 0 ? Check.NOT : 0;
                default: return 0;
            }
        }

        private static boolean out(int value, int least, int greatest) {
            return value < least || value > greatest;
        }

        private int agreed(int set, int what) {
            if (out(set, 1, (1 << letters) - 1)) {
                return Check.UNKNOWN;
            }
            int lightest = 100;
            int heaviest = 0;
            for (int l = 0; l < letters; l++) {
                if ((set >> l & 1) == 1) {
                    lightest = Math.min(lightest, weight(l));
                    heaviest = Math.max(heaviest, weight(l) + stonesIn(l));
                }
            }
            return out(what, 0, 1) ? Check.OUTSIDE : heaviest - lightest > 9 ? Check.NOT : 0;
        }

        private static int ask(HeaviestFirst x, String call, int a, int b) {
            switch (call) {
                case "feed": return x.feed(a, -1L);
                case "told": return x.told(a);
                case "place": return x.place(a, b);
                case "letter": return x.letter(a, b);
                case "far": return x.far(a, b);
                case "order": return x.order(a);
                case "stones": return x.stones(a, b);
                case "law": return x.law(a);
                case "price": return x.price(a);
                case "drift": return x.drift(a);
                case "shortest": return x.shortest(a);
                case "inTime": return x.inTime(a);
                case "answer": return x.answer(a);
                case "rests": return x.rests(a);
                case "agreed": return x.agreed(a, b);
                case "two": return x.two(a);
                case "came": return x.came(a);
                case "ends": return x.ends(a, b);
                case "write": return x.write(a, b);
                case "seed": return x.seed(a);
                case "keep": return x.keep(a);
                case "goBack": return x.goBack(a);
                case "fault": return x.fault();
                case "best": return x.best();
                default: return x.judge();
            }
        }
    }
}
