/**
 * All that can be asked of an object, so that two of them can be held side by side. It takes some 260 calls and leaves
 * the object changed: the calls that change something come last, and show what no other call tells.
 */
final class Twin {
    private final HeaviestFirst x;
    private final StringBuilder answers = new StringBuilder();

    private Twin(HeaviestFirst x) {
        this.x = x;
    }

    static String all(HeaviestFirst x) {
        Twin twin = new Twin(x);
        twin.town();
        twin.tried();
        twin.toldOrders();
        twin.images();
        twin.text();
        return twin.answers.toString();
    }

    /** The first line in which the two differ. */
    static String difference(String one, String other) {
        String[] ones = one.split("\n");
        String[] others = other.split("\n");
        for (int k = 0; k < ones.length && k < others.length; k++) {
            if (!ones[k].equals(others[k])) {
                return ones[k] + " is " + others[k] + " then";
            }
        }
        return "one of them ends earlier";
    }

    private void note(String call, int answer) {
        answers.append(call).append(' ').append(answer).append('\n');
    }

    private void note(String call, int a, int answer) {
        answers.append(call).append(' ').append(a).append(": ").append(answer).append('\n');
    }

    private void note(String call, int a, int b, int answer) {
        answers.append(call).append(' ').append(a).append(' ').append(b).append(": ").append(answer).append('\n');
    }

    private void town() {
        note("fault", x.fault());
        for (int what = 0; what <= 10; what++) {
            note("told", what, x.told(what));
        }
        for (int p = 0; p < 7; p++) {
            note("place", p, 0, x.place(p, 0));
            note("place", p, 1, x.place(p, 1));
        }
        for (int l = 0; l < 7; l++) {
            for (int what = 0; what <= 8; what++) {
                note("letter", l, what, x.letter(l, what));
            }
            note("order", l, x.order(l));
        }
    }

    private void tried() {
        for (int i = -2; i <= 0; i++) {
            note("shortest", i, x.shortest(i));
            note("inTime", i, x.inTime(i));
        }
        for (int l = -3; l <= 0; l++) {
            note("rests", l, x.rests(l));
        }
        note("answer", 0, x.answer(0));
        note("best", x.best());
        note("agreed", 3, 0, x.agreed(3, 0));
        note("agreed", 3, 1, x.agreed(3, 1));
        note("two", 0, x.two(0));
        note("two", 1, x.two(1));
    }

    private void toldOrders() {
        note("judge", x.judge());
        for (int l = 0; l < 7; l++) {
            note("ends", l, 0, x.ends(l, 0));
            note("ends", l, 1, x.ends(l, 1));
        }
        for (int l = 0; l < 7; l++) {
            note("came", l, x.came(l));
        }
        for (int l = 0; l < 7; l++) {
            note("ends of all", l, x.ends(l, 0));
        }
        note("write", x.write(0, 9999));
        note("tear", x.tear());
    }

    private void images() {
        note("seed", x.seed(1));
        for (int i = 0; i <= 1; i++) {
            note("goBack", i, x.goBack(i));
            for (int l = 0; l < 7; l++) {
                note("letter", l, 0, x.letter(l, 0));
                note("letter", l, 1, x.letter(l, 1));
                note("letter", l, 4, x.letter(l, 4));
            }
            note("C", x.told(2));
            note("LAW", x.told(4));
            note("seed", x.seed(2));
        }
    }

    /** What stands in the text is seen by the town that it becomes. */
    private void text() {
        note("feed", x.feed(3, ' ' << 16 | '5' << 8 | ';'));
        note("town", x.town());
        note("fault", x.fault());
        for (int p = 0; p < 7; p++) {
            note("place", p, 0, x.place(p, 0));
            note("place", p, 1, x.place(p, 1));
        }
        for (int what = 0; what <= 3; what++) {
            note("told", what, x.told(what));
        }
    }
}
