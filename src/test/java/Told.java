/** Texts of towns that several tests tell. */
final class Told {
    private Told() {
    }

    /** PLACES with other numbers each: X from 10 on, Y from 20 on. */
    static String places(int count) {
        StringBuilder text = new StringBuilder();
        for (int p = 0; p < count; p++) {
            text.append("place ").append(10 + p).append(' ').append(20 + p).append(';');
        }
        return text.toString();
    }

    /** PLACES on a line, ten minutes apart, the office at its one end. */
    static String line(int count) {
        StringBuilder text = new StringBuilder();
        for (int p = 0; p < count; p++) {
            text.append("place ").append(10 * p).append(" 0;");
        }
        return text.toString();
    }

    /** LETTERS with other numbers each, the heaviest first, to the PLACES by turns; always in time. */
    static String letters(int count, int places) {
        StringBuilder text = new StringBuilder();
        for (int l = 0; l < count; l++) {
            text.append("letter ").append(l % places).append(' ').append(30 - l).append(' ').append(900 + l)
                .append(' ').append(50 + l).append(';');
        }
        return text.toString();
    }

    static String seven() {
        return places(7) + letters(7, 7);
    }

    /** A text with blanks behind it, so that it has so many bytes. */
    static String filled(String text, int bytes) {
        return text + " ".repeat(bytes - text.length());
    }
}
