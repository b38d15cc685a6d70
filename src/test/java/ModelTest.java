import java.util.Random;

/** Random runs of all calls, each answer against the model's; the draws are the same at every run of the test. */
public final class ModelTest {
    private static final int RUNS = 1500;
    private static final String[] PIECES = {
        "place ", "place 1 2;", "letter ", "letter 0 5 60 9;", "stone ", "stone 3;", "1 ", "12", "0", "100", "999 ",
        "1000 ", ";", " ", "  ", "plac", "x", "Z", "-", "\377", "\0", "place 3 4; ", "letter 1 9 9 9;", "99 "
    };

    public static void main(String[] args) {
        for (int run = 0; run < RUNS && !Check.anyWrong(); run++) {
            new ModelTest(run).play();
        }
        for (int run = 0; run < 60 && !Check.anyWrong(); run++) {
            byHand(new Random(7000 + run));
        }
        Check.end("ModelTest");
    }

    private final Random random;
    private final int run;
    private final HeaviestFirst x = new HeaviestFirst();
    private final Model model = new Model();
    private int calls;

    private ModelTest(int run) {
        this.run = run;
        this.random = new Random(run);
    }

    private void same(String call, int got, int want) {
        calls++;
        Check.due("run " + run + ", call " + calls + ": " + call, got, want);
    }

    private void play() {
        // some runs begin without a town
        if (random.nextInt(10) > 0) {
            feedTown();
        }
        while (calls < 430 && !Check.anyWrong()) {
            if (random.nextInt(40) == 0) {
                feedTown();
            }
            step();
        }
    }

    private void feed(String text) {
        int from = 0;
        while (from < text.length() && calls < 512) {
            int n = Math.min(1 + random.nextInt(8), text.length() - from);
            long bytes = random.nextLong();
            for (int k = 0; k < n; k++) {
                bytes = bytes << 8 | text.charAt(from + k) & 0xff;
            }
            same("feed(" + n + ", " + bytes + ")", x.feed(n, bytes), model.feed(n, bytes));
            from += n;
        }
    }

    private void feedTown() {
        String text = goodText(random);
        if (random.nextInt(4) == 0) {
            text = spoilt(text);
        }
        feed(text);
        same("town() of " + text, x.town(), model.town());
        same("fault()", x.fault(), model.fault());
    }

    private String spoilt(String text) {
        StringBuilder other = new StringBuilder(text);
        for (int k = random.nextInt(3); k >= 0; k--) {
            int where = random.nextInt(other.length() + 1);
            switch (random.nextInt(4)) {
                case 0:
                    other.insert(where, PIECES[random.nextInt(PIECES.length)]);
                    break;
                case 1:
                    other.setLength(where);
                    break;
                case 2:
                    if (where < other.length()) {
                        other.deleteCharAt(where);
                    }
                    break;
                default:
                    other.append(PIECES[random.nextInt(PIECES.length)]);
            }
        }
        return other.toString();
    }

    static String goodText(Random random) {
        int places = 1 + random.nextInt(7);
        int letters = random.nextInt(20) == 0 ? 7 : random.nextInt(7);
        int span = 1 + random.nextInt(99);
        int weights = 1 + random.nextInt(random.nextInt(3) == 0 ? 99 : 12);
        StringBuilder text = new StringBuilder();
        String blank = random.nextInt(5) == 0 ? "  " : " ";
        for (int p = 0; p < places; p++) {
            text.append("place").append(blank).append(random.nextInt(span + 1)).append(blank)
                .append(random.nextInt(span + 1)).append(";");
        }
        int late = 1 + random.nextInt(6 * span);
        for (int l = 0; l < letters; l++) {
            text.append("letter").append(blank).append(random.nextInt(places)).append(blank)
                .append(1 + random.nextInt(weights)).append(blank)
                .append(Math.min(999, late / 3 + random.nextInt(late))).append(blank).append(random.nextInt(100))
                .append(";");
        }
        if (random.nextInt(4) > 0) {
            text.append("stone").append(blank).append(random.nextInt(random.nextInt(5) == 0 ? 100 : 12)).append(";");
        }
        return text.toString();
    }

    /** Mostly what there is, at times what there is not. */
    private int some(int below) {
        int draw = random.nextInt(30);
        if (draw == 0) {
            return random.nextInt();
        }
        return draw == 1 ? below + random.nextInt(3) : draw == 2 ? -1 - random.nextInt(4) : random.nextInt(below);
    }

    private void step() {
        int a = some(7);
        switch (random.nextInt(28)) {
            case 0: same("told", x.told(a), model.told(a)); break;
            case 1: a = some(11); same("told " + a, x.told(a), model.told(a)); break;
            case 2: int p = some(2); same("place " + a + " " + p, x.place(a, p), model.place(a, p)); break;
            case 3: int w = some(9); same("letter " + a + " " + w, x.letter(a, w), model.letter(a, w)); break;
            case 4: int q = some(7); same("far " + a + " " + q, x.far(a, q), model.far(a, q)); break;
            case 5: same("order " + a, x.order(a), model.order(a)); break;
            case 6: case 7: int n = some(10); same("stones " + a + " " + n, x.stones(a, n), model.stones(a, n)); break;
            case 8: a = some(3); same("law " + a, x.law(a), model.law(a)); break;
            case 9: a = some(random.nextBoolean() ? 100 : 12); same("price " + a, x.price(a), model.price(a)); break;
            case 10: a = some(6); same("drift " + a, x.drift(a), model.drift(a)); break;
            case 13: same("answer " + a, x.answer(a), model.answer(a)); break;
            case 14: case 15: a = some(10) - 3; same("rests " + a, x.rests(a), model.rests(a)); break;
            case 17: a = some(128); int g = some(2); same("agreed " + a, x.agreed(a, g), model.agreed(a, g)); break;
            case 18: a = some(2); same("two " + a, x.two(a), model.two(a)); break;
            case 19: same("came " + a, x.came(a), model.came(a)); break;
            case 20: int e = some(2); same("ends " + a + " " + e, x.ends(a, e), model.ends(a, e)); break;
            case 21: int m = some(10000); same("write " + a + " " + m, x.write(a, m), model.write(a, m)); break;
            case 22: same("judge", x.judge(), model.judge()); break;
            case 23: a = random.nextInt(); same("seed " + a, x.seed(a), model.seed(a)); break;
            case 24: a = some(2); same("keep " + a, x.keep(a), model.keep(a)); break;
            case 25: a = some(2); same("goBack " + a, x.goBack(a), model.goBack(a)); break;
            default: seldom(a);
        }
    }

    /** What takes the model long, or spoils much of what was built up. */
    private void seldom(int a) {
        switch (random.nextInt(12)) {
            case 0: int i = some(9) - 2; same("shortest " + i, x.shortest(i), model.shortest(i)); break;
            case 1: int k = some(9) - 2; same("inTime " + k, x.inTime(k), model.inTime(k)); break;
            case 2: same("best", x.best(), model.best()); break;
            case 3: same("tear", x.tear(), model.tear()); break;
            case 4: tellTheOrder(); break;
            case 5: writeWhatIs(); break;
            case 6: a = some(12); feed(PIECES[random.nextInt(PIECES.length)]); break;
            case 7: same("feed " + a, x.feed(a, 0x2020202020202020L), model.feed(a, 0x2020202020202020L)); break;
            default: tellAll();
        }
    }

    private void tellTheOrder() {
        same("tear", x.tear(), model.tear());
        for (int i = 0; i < model.told(1); i++) {
            int l = model.order(i);
            same("came " + l, x.came(l), model.came(l));
        }
        for (int l = 0; l < model.told(1); l++) {
            same("ends least " + l, x.ends(l, 0), model.ends(l, 0));
            same("ends greatest " + l, x.ends(l, 1), model.ends(l, 1));
        }
    }

    private void writeWhatIs() {
        for (int l = 0; l < model.told(1); l++) {
            int minute = model.letter(l, 7);
            same("write " + l + " " + minute, x.write(l, minute), model.write(l, minute));
        }
        same("judge", x.judge(), model.judge());
    }

    private void tellAll() {
        for (int what = 0; what < 11; what++) {
            same("told " + what, x.told(what), model.told(what));
        }
        for (int l = 0; l < model.told(1); l++) {
            for (int what = 0; what < 9; what++) {
                same("letter " + l + " " + what, x.letter(l, what), model.letter(l, what));
            }
        }
    }

    /** What is tried, against all stones that there can be, for at most three letters. */
    private static void byHand(Random random) {
        StringBuilder text = new StringBuilder("place 5 5;place 12 5;place 5 20;place 31 30;");
        int letters = 1 + random.nextInt(3);
        for (int l = 0; l < letters; l++) {
            text.append("letter ").append(random.nextInt(4)).append(" ").append(1 + random.nextInt(14)).append(" ")
                .append(20 + random.nextInt(90)).append(" 1;");
        }
        HeaviestFirst x = Check.town(text.toString(), letters);
        Model model = new Model();
        for (char c : text.toString().toCharArray()) {
            model.feed(1, c);
        }
        model.town();
        for (int law = 0; law < 2; law++) {
            x.law(law);
            model.law(law);
            Model.Tried shortest = model.shortestTried(model.allTriedByHand());
            Model.Tried inTime = model.inTimeTried(model.allTriedByHand());
            Check.due(text + " shortest(-1)", x.shortest(-1), shortest.walk);
            Check.due(text + " shortest(-2)", x.shortest(-2), shortest.stones);
            Check.due(text + " inTime(-1)", x.inTime(-1), inTime == null ? Check.NONE : inTime.stones);
            Check.due(text + " inTime(-2)", x.inTime(-2), inTime == null ? Check.NONE : inTime.walk);
            for (int i = 0; i < letters; i++) {
                Check.due(text + " shortest(" + i + ")", x.shortest(i), shortest.order.get(i));
                Check.due(text + " inTime(" + i + ")", x.inTime(i), inTime == null ? Check.NONE : inTime.order.get(i));
            }
        }
    }
}
