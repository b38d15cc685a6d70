import java.nio.file.Files;
import java.nio.file.Path;

/** A part of ../shared/DOC.md, gone through from its first word to its last one, so that no sentence is left out. */
final class Document {
    private final String words;
    private int gone;

    /** The words from one heading up to another one; marks of form and the breaks of lines do not count. */
    Document(String from, String until) throws Exception {
        String page = Files.readString(Path.of("../shared/DOC.md"));
        int first = page.indexOf(from);
        int last = page.indexOf(until, first + 1);
        Check.holds("the document has '" + from + "' and '" + until + "'", first >= 0 && last > first);
        words = page.substring(first, last).replaceAll("(?m)^```.*$|=======+", " ").replaceAll("\\s+", " ").trim();
    }

    /** The next words; what is asked from here on is held against them. */
    void says(String next) {
        pass(next);
        Check.sentence(next);
    }

    /** The next words, of which nothing can be asked alone: a heading, or what the words behind them tell in full. */
    void heads(String next) {
        pass(next);
    }

    private void pass(String next) {
        Check.holds("the document goes on with '" + next + "' but has '"
                + words.substring(gone, Math.min(words.length(), gone + next.length() + 20)) + "'", words.startsWith(next, gone));
        gone = Math.min(words.length(), gone + next.length());
        while (gone < words.length() && words.charAt(gone) == ' ') {
            gone++;
        }
    }

    void end() {
        Check.holds("all is gone through but '" + words.substring(gone) + "'", gone == words.length());
    }
}
