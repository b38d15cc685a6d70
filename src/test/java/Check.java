/** What every test here uses: counts answers that are not due, and ends with exit code 1 if there was one. */
final class Check {
    static final int NONE = -1, UNKNOWN = -1000000001, OUTSIDE = -1000000002, NOT = -1000000003, FULL = -1000000004;

    private static int asked = 0;
    private static int wrong = 0;

    private Check() {
    }

    static void due(String call, long got, long want) {
        asked++;
        if (got != want) {
            wrong++;
            System.out.println(call + " answered " + got + ", due is " + want);
        }
    }

    static void holds(String what, boolean so) {
        asked++;
        if (!so) {
            wrong++;
            System.out.println("does not hold: " + what);
        }
    }

    static boolean anyWrong() {
        return wrong > 0;
    }

    /** Feeds a text in pieces of eight bytes and what is left. */
    static void feed(HeaviestFirst x, String text) {
        for (int from = 0; from < text.length(); from += 8) {
            String piece = text.substring(from, Math.min(text.length(), from + 8));
            long bytes = 0;
            for (int k = 0; k < piece.length(); k++) {
                bytes = bytes << 8 | piece.charAt(k) & 0xff;
            }
            due("feed(" + piece + ")", x.feed(piece.length(), bytes), from + piece.length());
        }
    }

    static HeaviestFirst town(String text, int letters) {
        HeaviestFirst x = new HeaviestFirst();
        feed(x, text);
        due("town() of " + text, x.town(), letters);
        return x;
    }

    static void end(String test) {
        System.out.println(test + ": " + asked + " answers, " + wrong + " not as due");
        if (wrong > 0) {
            System.exit(1);
        }
    }
}
