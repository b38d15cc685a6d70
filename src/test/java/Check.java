import java.util.HashSet;
import java.util.Set;

/** What every test here uses: counts answers that are not due, and ends with exit code 1 if there was one. */
public final class Check {
    static final int NONE = -1, UNKNOWN = -1000000001, OUTSIDE = -1000000002, NOT = -1000000003, FULL = -1000000004;

    private static int asked = 0;
    private static int wrong = 0;
    private static final Set<String> SENTENCES = new HashSet<>();
    private static int askedBefore = 0;
    private static String under = "";

    private Check() {
    }

    /** The document's words that the answers from here on are held against. */
    static void sentence(String words) {
        closeSentence();
        SENTENCES.add(words);
        under = words;
        askedBefore = asked;
    }

    private static void closeSentence() {
        if (!under.isEmpty() && asked == askedBefore) {
            wrong++;
            System.out.println("nothing was asked under: " + under);
        }
    }

    private static String place() {
        return under.isEmpty() ? "" : "[" + under + "] ";
    }

    public static void due(String call, long got, long want) {
        asked++;
        if (got != want) {
            wrong++;
            System.out.println(place() + call + " answered " + got + ", due is " + want);
        }
    }

    static void holds(String what, boolean so) {
        asked++;
        if (!so) {
            wrong++;
            System.out.println(place() + "does not hold: " + what);
        }
    }

    static boolean anyWrong() {
        return wrong > 0;
    }

    /** Feeds a text in pieces of eight bytes and what is left. */
    static void feed(HeaviestFirst x, String text) {
        for (int from = 0; from < text.length(); from += 8) {
            String piece = text.substring(from, Math.min(text.length(), from + 8));
            long bytes = 0;
            for (int k = 0; k < piece.length(); k++) {
                bytes = bytes << 8 | piece.charAt(k) & 0xff;
            }
            due("feed(" + piece + ")", x.feed(piece.length(), bytes), from + piece.length());
        }
    }

    static HeaviestFirst town(String text, int letters) {
        HeaviestFirst x = new HeaviestFirst();
        feed(x, text);
        due("town() of " + text, x.town(), letters);
        return x;
    }

    /** A text that a new object refuses to make a town of, by this fault at this byte. */
    static void fault(String text, int number, int where) {
        HeaviestFirst x = new HeaviestFirst();
        feed(x, text);
        due("town() of '" + text + "'", x.town(), -10 - number);
        due("fault() of '" + text + "'", x.fault(), where);
        due("PLACES behind '" + text + "'", x.told(0), 0);
        due("LETTERS behind '" + text + "'", x.told(1), 0);
        due("bytes behind '" + text + "'", x.told(3), 0);
    }

    static void end(String test) {
        closeSentence();
        System.out.println(test + ": " + asked + " answers" + (SENTENCES.isEmpty() ? "" : " under " + SENTENCES.size() + " sentences")
                + ", " + wrong + " not as due");
        if (wrong > 0) {
            System.exit(1);
        }
    }
}
