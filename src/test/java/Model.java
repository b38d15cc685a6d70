import java.util.ArrayList;
import java.util.Arrays;
import java.util.Collections;
import java.util.Comparator;
import java.util.List;
import java.util.regex.Matcher;
import java.util.regex.Pattern;

/**
 * The document once more, written as plainly as the library lets it be and with no thought of speed, to be
 * asked beside the program. Nothing of it is shared with the program.
 */
final class Model {
    static final int NONE = -1, UNKNOWN = -1000000001, OUTSIDE = -1000000002, NOT = -1000000003, FULL = -1000000004;

    static final class Letter {
        int place, weight, due, worth, stones;

        Letter copy() {
            Letter other = new Letter();
            other.place = place;
            other.weight = weight;
            other.due = due;
            other.worth = worth;
            other.stones = stones;
            return other;
        }
    }

    static final class Kept {
        List<Letter> letters = new ArrayList<>();
        int law, cost, seed;
    }

    static final class Tried {
        List<Integer> order;
        int stones, walk;
    }

    static final class Fault extends RuntimeException {
        final int number, where;

        Fault(int number, int where) {
            this.number = number;
            this.where = where;
        }
    }

    private final StringBuilder text = new StringBuilder();
    private List<int[]> places = new ArrayList<>();
    private List<Letter> letters = new ArrayList<>();
    private final List<Integer> came = new ArrayList<>();
    private final List<int[]> book = new ArrayList<>();
    private final Kept[] images = new Kept[2];
    private int cost = 1, law = 0, seed = 0, faultPlace = NONE;

    // ---- the text

    int feed(int n, long bytes) {
        if (n < 1 || n > 8) return OUTSIDE;
        if (text.length() + n > 400) return FULL;
        String hex = String.format("%016x", bytes).substring(16 - 2 * n);
        for (int k = 0; k < hex.length(); k += 2) text.append((char) Integer.parseInt(hex.substring(k, k + 2), 16));
        return text.length();
    }

    int town() {
        String whole = text.toString();
        text.setLength(0);
        List<int[]> newPlaces = new ArrayList<>();
        List<Letter> newLetters = new ArrayList<>();
        int[] newCost = {-1};
        try {
            read(whole, newPlaces, newLetters, newCost);
        } catch (Fault fault) {
            faultPlace = fault.where;
            return -10 - fault.number;
        }
        faultPlace = NONE;
        places = newPlaces;
        letters = newLetters;
        cost = newCost[0] < 0 ? 1 : newCost[0];
        came.clear();
        book.clear();
        Arrays.fill(images, null);
        return letters.size();
    }

    /** Tokens one by one against the form of the clause that is open: w word, n number, ; the end. */
    private static void read(String text, List<int[]> places, List<Letter> letters, int[] cost) {
        Matcher m = Pattern.compile("[a-z]+|[0-9]+| +|(?s:.)").matcher(text);
        String clause = null;
        List<Integer> numbers = new ArrayList<>();
        while (m.find()) {
            String token = m.group();
            int where = m.start();
            if (token.startsWith(" ")) continue;
            if (clause == null) {
                if (!List.of("place", "letter", "stone").contains(token)) throw new Fault(1, where);
                boolean full = token.equals("place") && places.size() == 7 || token.equals("letter") && letters.size() == 7
                        || token.equals("stone") && cost[0] >= 0;
                if (full) throw new Fault(3, where);
                clause = token;
                numbers.clear();
                continue;
            }
            int[][] bounds = boundsOf(clause, places.size());
            if (numbers.size() < bounds.length) {
                if (!token.matches("[0-9]+")) throw new Fault(1, where);
                int[] bound = bounds[numbers.size()];
                if (token.length() > 3) throw new Fault(2, where);
                int value = Integer.parseInt(token);
                if (value < bound[0] || value > bound[1]) throw new Fault(2, where);
                numbers.add(value);
                continue;
            }
            if (!token.equals(";")) throw new Fault(1, where);
            if (clause.equals("place")) places.add(new int[] {numbers.get(0), numbers.get(1)});
            if (clause.equals("stone")) cost[0] = numbers.get(0);
            if (clause.equals("letter")) {
                Letter letter = new Letter();
                letter.place = numbers.get(0);
                letter.weight = numbers.get(1);
                letter.due = numbers.get(2);
                letter.worth = numbers.get(3);
                letters.add(letter);
            }
            clause = null;
        }
        if (clause != null) throw new Fault(1, text.length());
    }

    private static int[][] boundsOf(String clause, int places) {
        if (clause.equals("place")) return new int[][] {{0, 99}, {0, 99}};
        if (clause.equals("stone")) return new int[][] {{0, 99}};
        return new int[][] {{0, places - 1}, {1, 99}, {0, 999}, {0, 99}};
    }

    // ---- orders and walks

    private int[] stonesNow() {
        return letters.stream().mapToInt(letter -> letter.stones).toArray();
    }

    private int[] heavy(int[] stones) {
        int[] heavy = new int[letters.size()];
        for (int l = 0; l < heavy.length; l++) heavy[l] = letters.get(l).weight + stones[l];
        return heavy;
    }

    private List<Integer> orderBy(int[] heavy) {
        Comparator<Integer> byNumber = Comparator.naturalOrder();
        Comparator<Integer> heaviest = Comparator.<Integer>comparingInt(l -> -heavy[l]).thenComparing(byNumber);
        Comparator<Integer> lightest = Comparator.<Integer>comparingInt(l -> heavy[l]).thenComparing(byNumber);
        List<Integer> left = new ArrayList<>();
        for (int l = 0; l < heavy.length; l++) left.add(l);
        List<Integer> order = new ArrayList<>();
        while (!left.isEmpty()) {
            boolean down = law == 0 || law == 2 && order.size() % 2 == 0;
            Integer next = Collections.min(left, down ? heaviest : lightest);
            left.remove(next);
            order.add(next);
        }
        return order;
    }

    private List<Integer> orderNow() {
        return orderBy(heavy(stonesNow()));
    }

    private int between(int p, int q) {
        return Math.abs(places.get(p)[0] - places.get(q)[0]) + Math.abs(places.get(p)[1] - places.get(q)[1]);
    }

    private int walk(List<Integer> order) {
        int walk = 0, at = 0;
        for (int l : order) {
            walk += between(at, letters.get(l).place);
            at = letters.get(l).place;
        }
        return walk;
    }

    private int comes(List<Integer> order, int l) {
        return walk(order.subList(0, order.indexOf(l) + 1));
    }

    private boolean timely(List<Integer> order, int l) {
        return comes(order, l) <= letters.get(l).due;
    }

    private int had(int[] stones, int l, int c) {
        return (timely(orderBy(heavy(stones)), l) ? letters.get(l).worth : 0) - c * stones[l];
    }

    private int hadOfAll(int[] stones) {
        int all = 0;
        for (int l = 0; l < stones.length; l++) all += had(stones, l, cost);
        return all;
    }

    private boolean noLetter(int l) {
        return l < 0 || l >= letters.size();
    }

    private boolean noPlace(int p) {
        return p < 0 || p >= places.size();
    }

    // ---- what is told

    int fault() {
        return faultPlace;
    }

    int told(int what) {
        int inTime = 0;
        for (int l = 0; l < letters.size(); l++) if (timely(orderNow(), l)) inTime += 1 << l;
        switch (what) {
            case 0: return places.size();
            case 1: return letters.size();
            case 2: return cost;
            case 3: return text.length();
            case 4: return law;
            case 5: return walk(orderNow());
            case 6: return Arrays.stream(stonesNow()).sum();
            case 7: return inTime;
            case 8: return hadOfAll(stonesNow());
            case 9: return came.size();
            case 10: return book.size();
            default: return OUTSIDE;
        }
    }

    int place(int p, int what) {
        if (noPlace(p)) return UNKNOWN;
        return what == 0 || what == 1 ? places.get(p)[what] : OUTSIDE;
    }

    int letter(int l, int what) {
        if (noLetter(l)) return UNKNOWN;
        Letter letter = letters.get(l);
        switch (what) {
            case 0: return letter.place;
            case 1: return letter.weight;
            case 2: return letter.due;
            case 3: return letter.worth;
            case 4: return letter.stones;
            case 5: return letter.weight + letter.stones;
            case 6: return orderNow().indexOf(l);
            case 7: return comes(orderNow(), l);
            case 8: return had(stonesNow(), l, cost);
            default: return OUTSIDE;
        }
    }

    int far(int p, int q) {
        return noPlace(p) || noPlace(q) ? UNKNOWN : between(p, q);
    }

    int order(int i) {
        return noLetter(i) ? NONE : orderNow().get(i);
    }

    // ---- what is done

    int stones(int l, int n) {
        if (noLetter(l)) return UNKNOWN;
        if (n < 0 || n > 9) return OUTSIDE;
        int was = letters.get(l).stones;
        letters.get(l).stones = n;
        return was;
    }

    int law(int v) {
        if (v < 0 || v > 2) return OUTSIDE;
        int was = law;
        law = v;
        return was;
    }

    int price(int v) {
        if (v < 0 || v > 99) return OUTSIDE;
        int was = cost;
        cost = v;
        return was;
    }

    private int draw(int n) {
        seed = (int) ((seed * 1103515245L + 12345) % 2147483648L);
        return seed / 65536 % n;
    }

    int drift(int n) {
        if (n < 1 || n > 99) return OUTSIDE;
        if (letters.isEmpty()) return NOT;
        int all = 0;
        for (int morning = 0; morning < n; morning++) {
            for (Letter letter : letters) {
                letter.weight = draw(99) + 1;
                letter.place = draw(places.size());
                letter.stones = 0;
            }
            all += hadOfAll(stonesNow());
        }
        return all;
    }

    // ---- tried

    /** All orders with their fewest stones; in the order in which the first of them comes first. */
    List<Tried> allTried() {
        List<Tried> all = new ArrayList<>();
        for (List<Integer> order : permutations(letters.size())) {
            int[] stones = fewest(order);
            if (stones != null) {
                Tried tried = new Tried();
                tried.order = order;
                tried.stones = Arrays.stream(stones).sum();
                tried.walk = walk(order);
                all.add(tried);
            }
        }
        return all;
    }

    private static List<List<Integer>> permutations(int n) {
        List<List<Integer>> rows = new ArrayList<>();
        rows.add(new ArrayList<>());
        for (int k = 0; k < n; k++) {
            List<List<Integer>> longer = new ArrayList<>();
            for (List<Integer> row : rows) {
                for (int l = 0; l < n; l++) {
                    if (!row.contains(l)) {
                        List<Integer> next = new ArrayList<>(row);
                        next.add(l);
                        longer.add(next);
                    }
                }
            }
            rows = longer;
        }
        return rows;
    }

    /** Raises what is too light by one stone each, till the order comes of it. */
    private int[] fewest(List<Integer> order) {
        int[] stones = new int[order.size()];
        boolean changed = true;
        while (changed) {
            changed = false;
            for (int k = 0; k + 1 < order.size(); k++) {
                int a = order.get(k), b = order.get(k + 1);
                int heavyA = letters.get(a).weight + stones[a], heavyB = letters.get(b).weight + stones[b];
                boolean right = law == 0 ? heavyA > heavyB : heavyA < heavyB;
                if (!right && !(heavyA == heavyB && a < b)) {
                    int raised = law == 0 ? a : b;
                    stones[raised]++;
                    if (stones[raised] > 9) return null;
                    changed = true;
                }
            }
        }
        return stones;
    }

    /** The same as allTried, by trying all stones that there can be; for few letters. */
    List<Tried> allTriedByHand() {
        int n = letters.size();
        List<Tried> all = new ArrayList<>();
        for (List<Integer> order : permutations(n)) {
            Tried tried = new Tried();
            tried.order = order;
            tried.walk = walk(order);
            tried.stones = Integer.MAX_VALUE;
            int[] stones = new int[n];
            for (int code = 0; code < Math.pow(10, n); code++) {
                int sum = 0;
                for (int l = 0, rest = code; l < n; l++, rest /= 10) {
                    stones[l] = rest % 10;
                    sum += stones[l];
                }
                if (sum < tried.stones && orderBy(heavy(stones)).equals(order)) tried.stones = sum;
            }
            if (tried.stones < Integer.MAX_VALUE) all.add(tried);
        }
        return all;
    }

    Tried shortestTried(List<Tried> all) {
        Tried best = null;
        for (Tried one : all) {
            if (best == null || one.walk < best.walk || one.walk == best.walk && one.stones < best.stones) best = one;
        }
        return best;
    }

    Tried inTimeTried(List<Tried> all) {
        Tried best = null;
        for (Tried one : all) {
            if (!one.order.stream().allMatch(l -> timely(one.order, l))) continue;
            if (best == null || one.stones < best.stones || one.stones == best.stones && one.walk < best.walk) best = one;
        }
        return best;
    }

    int shortest(int i) {
        if (law == 2 || letters.isEmpty()) return NOT;
        Tried best = shortestTried(allTried());
        if (i == -1) return best.walk;
        if (i == -2) return best.stones;
        return noLetter(i) ? NONE : best.order.get(i);
    }

    int inTime(int i) {
        if (law == 2 || letters.isEmpty()) return NOT;
        Tried best = inTimeTried(allTried());
        if (best == null) return NONE;
        if (i == -1) return best.stones;
        if (i == -2) return best.walk;
        return noLetter(i) ? NONE : best.order.get(i);
    }

    private int bestAnswer(int[] stones, int l, int c) {
        int[] own = stones.clone();
        int best = 0;
        int[] had = new int[10];
        for (int n = 0; n <= 9; n++) {
            own[l] = n;
            had[n] = had(own, l, c);
            if (had[n] > had[best]) best = n;
        }
        return best;
    }

    int answer(int l) {
        return noLetter(l) ? UNKNOWN : bestAnswer(stonesNow(), l, cost);
    }

    /** STONES at the rest and behind them how many rounds changed something; null: never. */
    private int[] settled(int c) {
        int[] stones = stonesNow();
        for (int round = 0; round < 30; round++) {
            int[] before = stones.clone();
            for (int l = 0; l < stones.length; l++) stones[l] = bestAnswer(stones, l, c);
            if (Arrays.equals(before, stones)) {
                int[] all = Arrays.copyOf(stones, stones.length + 1);
                all[stones.length] = round;
                return all;
            }
        }
        return null;
    }

    int rests(int l) {
        if (noLetter(l) && l != -1 && l != -2 && l != -3) return UNKNOWN;
        int[] all = settled(cost);
        if (all == null) return NONE;
        int[] stones = Arrays.copyOf(all, letters.size());
        if (l == -1) return all[letters.size()];
        if (l == -2) return hadOfAll(stones);
        if (l == -3) return walk(orderBy(heavy(stones)));
        return stones[l];
    }

    int best() {
        int best = NONE, least = Integer.MAX_VALUE;
        for (int c = 0; c <= 20; c++) {
            int[] all = settled(c);
            if (all != null) {
                int walk = walk(orderBy(heavy(Arrays.copyOf(all, letters.size()))));
                if (walk < least) {
                    least = walk;
                    best = c;
                }
            }
        }
        return best;
    }

    int agreed(int set, int what) {
        String bits = new StringBuilder(Integer.toBinaryString(set)).reverse().toString();
        List<Integer> members = new ArrayList<>();
        for (int k = 0; k < bits.length(); k++) if (bits.charAt(k) == '1') members.add(k);
        if (members.isEmpty() || members.stream().anyMatch(this::noLetter)) return UNKNOWN;
        if (what != 0 && what != 1) return OUTSIDE;
        int[] stones = stonesNow();
        int heaviest = members.stream().mapToInt(l -> heavy(stonesNow())[l]).max().getAsInt();
        int dearer = 0;
        for (int l : members) {
            dearer -= stones[l] * cost;
            stones[l] = heaviest - letters.get(l).weight;
            dearer += stones[l] * cost;
        }
        if (Arrays.stream(stones).anyMatch(n -> n > 9)) return NOT;
        return what == 1 ? dearer : walk(orderNow()) - walk(orderBy(heavy(stones)));
    }

    int two(int what) {
        if (what != 0 && what != 1) return OUTSIDE;
        List<Integer> order = orderNow();
        int best = -1, least = Integer.MAX_VALUE;
        for (int k = 0; k <= order.size(); k++) {
            int longer = Math.max(walk(order.subList(0, k)), walk(order.subList(k, order.size())));
            if (longer < least) {
                least = longer;
                best = k;
            }
        }
        return what == 0 ? best : least;
    }

    // ---- told orders

    int came(int l) {
        if (noLetter(l)) return UNKNOWN;
        if (came.contains(l)) return NOT;
        came.add(l);
        return came.size();
    }

    int ends(int l, int what) {
        if (noLetter(l)) return UNKNOWN;
        if (what != 0 && what != 1) return OUTSIDE;
        if (law == 2) return NOT;
        List<Integer> fit = new ArrayList<>();
        for (int h = 1; h <= 108; h++) {
            int[] heavy = heavy(stonesNow());
            heavy[l] = h;
            if (orderBy(heavy).equals(came)) fit.add(h);
        }
        if (fit.isEmpty()) return NONE;
        return what == 0 ? Collections.min(fit) : Collections.max(fit);
    }

    int write(int l, int minute) {
        if (noLetter(l)) return UNKNOWN;
        if (minute < 0 || minute > 9999) return OUTSIDE;
        if (book.size() == 30) return FULL;
        book.add(new int[] {l, minute});
        return book.size();
    }

    int tear() {
        int both = book.size() + came.size();
        book.clear();
        came.clear();
        return both;
    }

    int judge() {
        for (int[] entry : book) if (comes(orderNow(), entry[0]) != entry[1]) return book.indexOf(entry);
        return NONE;
    }

    int seed(int v) {
        if (v < 0) return OUTSIDE;
        int was = seed;
        seed = v;
        return was;
    }

    int keep(int i) {
        if (i != 0 && i != 1) return UNKNOWN;
        images[i] = new Kept();
        for (Letter letter : letters) images[i].letters.add(letter.copy());
        images[i].law = law;
        images[i].cost = cost;
        images[i].seed = seed;
        return 1;
    }

    int goBack(int i) {
        if (i != 0 && i != 1) return UNKNOWN;
        if (images[i] == null) return NOT;
        letters = new ArrayList<>();
        for (Letter letter : images[i].letters) letters.add(letter.copy());
        law = images[i].law;
        cost = images[i].cost;
        seed = images[i].seed;
        return 1;
    }
}
