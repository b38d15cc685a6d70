/**
 * A postman who takes letters by weight and by nothing else. ../shared/DOC.md says what each call promises;
 * the names here follow its terms.
 */
public final class HeaviestFirst {
    public static final int NONE = -1, UNKNOWN = -1000000001, OUTSIDE = -1000000002, NOT = -1000000003, FULL = -1000000004;

    private static final int MOST_PLACES = 7;
    private static final int MOST_LETTERS = 7;
    private static final int MOST_STONES = 9;
    private static final int MOST_HEAVY = 108;
    private static final int MOST_BYTES = 400;
    private static final int MOST_FIGURES = 3;
    private static final int MOST_PRICE = 99;
    private static final int MOST_TRIED_PRICE = 20;
    private static final int MOST_ROUNDS = 30;
    private static final int MOST_MORNINGS = 99;
    private static final int MOST_ENTRIES = 30;
    private static final int MOST_MINUTE = 9999;

    private static final int HEAVIEST = 0;
    private static final int BY_TURNS = 2;

    private static final int CANNOT_STAND = 1;
    private static final int BAD_NUMBER = 2;
    private static final int TOO_MANY = 3;

    private final Reader reader = new Reader();
    private final Town current = new Town();
    private final Route route = new Route();
    private final Search search = new Search();
    private final Senders senders = new Senders();
    private final Image firstImage = new Image();
    private final Image secondImage = new Image();
    private final int[] agreedStones = new int[MOST_LETTERS];
    private final int[] cameRow = new int[MOST_LETTERS];
    private final int[] bookLetters = new int[MOST_ENTRIES];
    private final int[] bookMinutes = new int[MOST_ENTRIES];
    private int cameCount;
    private int bookCount;

    public HeaviestFirst() {
    }

    // ---- the town

    public int feed(int n, long bytes) {
        if (n < 1 || n > 8) {
            return OUTSIDE;
        }
        if (reader.length + n > MOST_BYTES) {
            return FULL;
        }
        for (int k = n - 1; k >= 0; k--) {
            reader.add((byte) (bytes >> (8 * k)));
        }
        return reader.length;
    }

    public int town() {
        int number = reader.read();
        if (number != 0) {
            return -10 - number;
        }
        current.becomeTold(reader.draft);
        cameCount = 0;
        bookCount = 0;
        firstImage.kept = false;
        secondImage.kept = false;
        return current.letterCount;
    }

    public int fault() {
        return reader.faultPlace;
    }

    public int told(int what) {
        if (what < 0 || what > 10) {
            return OUTSIDE;
        }
        route.lay(current, current.stones);
        switch (what) {
            case 0: return current.placeCount;
            case 1: return current.letterCount;
            case 2: return current.cost;
            case 3: return reader.length;
            case 4: return current.law;
            case 5: return route.minutes;
            case 6: return sum(current.stones, current.letterCount);
            case 7: return route.lettersInTime(current);
            case 8: return route.hadOfAll(current, current.stones);
            case 9: return cameCount;
            default: return bookCount;
        }
    }

    public int place(int p, int what) {
        if (!current.hasPlace(p)) {
            return UNKNOWN;
        }
        if (what < 0 || what > 1) {
            return OUTSIDE;
        }
        return what == 0 ? at(current.xs, p) : at(current.ys, p);
    }

    public int letter(int l, int what) {
        if (!current.hasLetter(l)) {
            return UNKNOWN;
        }
        if (what < 0 || what > 8) {
            return OUTSIDE;
        }
        route.lay(current, current.stones);
        switch (what) {
            case 0: return at(current.goals, l);
            case 1: return at(current.weights, l);
            case 2: return at(current.dues, l);
            case 3: return at(current.worths, l);
            case 4: return at(current.stones, l);
            case 5: return at(route.heavy, l);
            case 6: return route.rankOf(l, current.letterCount);
            case 7: return at(route.comes, l);
            default: return route.had(current, l, at(current.stones, l), current.cost);
        }
    }

    public int far(int p, int q) {
        if (!current.hasPlace(p) || !current.hasPlace(q)) {
            return UNKNOWN;
        }
        return current.apart(p, q);
    }

    public int order(int i) {
        if (!current.hasLetter(i)) {
            return NONE;
        }
        route.lay(current, current.stones);
        return at(route.row, i);
    }

    // ---- what is done

    public int stones(int l, int n) {
        if (!current.hasLetter(l)) {
            return UNKNOWN;
        }
        if (n < 0 || n > MOST_STONES) {
            return OUTSIDE;
        }
        int was = at(current.stones, l);
        put(current.stones, l, n);
        return was;
    }

    public int law(int v) {
        if (v < HEAVIEST || v > BY_TURNS) {
            return OUTSIDE;
        }
        int was = current.law;
        current.law = v;
        return was;
    }

    public int price(int v) {
        if (v < 0 || v > MOST_PRICE) {
            return OUTSIDE;
        }
        int was = current.cost;
        current.cost = v;
        return was;
    }

    public int drift(int n) {
        if (n < 1 || n > MOST_MORNINGS) {
            return OUTSIDE;
        }
        if (current.letterCount == 0) {
            return NOT;
        }
        int had = 0;
        for (int morning = 0; morning < n; morning++) {
            current.drawLetters();
            route.lay(current, current.stones);
            had += route.hadOfAll(current, current.stones);
        }
        return had;
    }

    // ---- tried

    public int shortest(int i) {
        if (nothingCanBeTried()) {
            return NOT;
        }
        search.seek(current, false);
        if (i == NONE) {
            return search.bestMinutes;
        }
        return i == -2 ? search.bestStones : search.letterAt(i, current.letterCount);
    }

    public int inTime(int i) {
        if (nothingCanBeTried()) {
            return NOT;
        }
        search.seek(current, true);
        if (!search.found) {
            return NONE;
        }
        if (i == NONE) {
            return search.bestStones;
        }
        return i == -2 ? search.bestMinutes : search.letterAt(i, current.letterCount);
    }

    public int answer(int l) {
        if (!current.hasLetter(l)) {
            return UNKNOWN;
        }
        senders.begin(current);
        return senders.bestStones(current, l, current.cost);
    }

    public int rests(int l) {
        if (l < -3 || l >= current.letterCount) {
            return UNKNOWN;
        }
        if (!senders.settle(current, current.cost)) {
            return NONE;
        }
        if (l == NONE) {
            return senders.rounds;
        }
        if (l >= 0) {
            return at(senders.stones, l);
        }
        route.lay(current, senders.stones);
        return l == -2 ? route.hadOfAll(current, senders.stones) : route.minutes;
    }

    public int best() {
        int bestCost = NONE;
        int bestMinutes = 0;
        for (int cost = 0; cost <= MOST_TRIED_PRICE; cost++) {
            if (senders.settle(current, cost)) {
                route.lay(current, senders.stones);
                if (bestCost == NONE || route.minutes < bestMinutes) {
                    bestCost = cost;
                    bestMinutes = route.minutes;
                }
            }
        }
        return bestCost;
    }

    public int agreed(int set, int what) {
        if (set <= 0 || set >= 1 << current.letterCount) {
            return UNKNOWN;
        }
        if (what < 0 || what > 1) {
            return OUTSIDE;
        }
        if (!agreeOnWeight(set)) {
            return NOT;
        }
        int count = current.letterCount;
        if (what == 1) {
            return current.cost * (sum(agreedStones, count) - sum(current.stones, count));
        }
        route.lay(current, current.stones);
        int now = route.minutes;
        route.lay(current, agreedStones);
        return now - route.minutes;
    }

    public int two(int what) {
        if (what < 0 || what > 1) {
            return OUTSIDE;
        }
        route.lay(current, current.stones);
        int bestFirst = 0;
        int bestLonger = route.longerOfTwo(current, 0);
        for (int first = 1; first <= current.letterCount; first++) {
            int longer = route.longerOfTwo(current, first);
            if (longer < bestLonger) {
                bestFirst = first;
                bestLonger = longer;
            }
        }
        return what == 0 ? bestFirst : bestLonger;
    }

    // ---- told orders

    public int came(int l) {
        if (!current.hasLetter(l)) {
            return UNKNOWN;
        }
        for (int k = 0; k < cameCount; k++) {
            if (at(cameRow, k) == l) {
                return NOT;
            }
        }
        put(cameRow, cameCount, l);
        cameCount++;
        return cameCount;
    }

    public int ends(int l, int what) {
        if (!current.hasLetter(l)) {
            return UNKNOWN;
        }
        if (what < 0 || what > 1) {
            return OUTSIDE;
        }
        if (current.law == BY_TURNS) {
            return NOT;
        }
        if (cameCount < current.letterCount) {
            return NONE;
        }
        route.weigh(current, current.stones);
        int end = NONE;
        for (int heavy = 1; heavy <= MOST_HEAVY; heavy++) {
            put(route.heavy, l, heavy);
            route.sort(current.letterCount, current.law);
            if ((what == 1 || end == NONE) && sameRows(route.row, cameRow, cameCount)) {
                end = heavy;
            }
        }
        return end;
    }

    public int write(int l, int minute) {
        if (!current.hasLetter(l)) {
            return UNKNOWN;
        }
        if (minute < 0 || minute > MOST_MINUTE) {
            return OUTSIDE;
        }
        if (bookCount >= MOST_ENTRIES) {
            return FULL;
        }
        put(bookLetters, bookCount, l);
        put(bookMinutes, bookCount, minute);
        bookCount++;
        return bookCount;
    }

    public int tear() {
        int had = bookCount + cameCount;
        bookCount = 0;
        cameCount = 0;
        return had;
    }

    public int judge() {
        route.lay(current, current.stones);
        for (int entry = 0; entry < bookCount; entry++) {
            if (at(route.comes, at(bookLetters, entry)) != at(bookMinutes, entry)) {
                return entry;
            }
        }
        return NONE;
    }

    public int seed(int v) {
        if (v < 0) {
            return OUTSIDE;
        }
        int was = current.seedNow;
        current.seedNow = v;
        return was;
    }

    public int keep(int i) {
        if (i < 0 || i > 1) {
            return UNKNOWN;
        }
        imageOf(i).keepOf(current);
        return 1;
    }

    public int goBack(int i) {
        if (i < 0 || i > 1) {
            return UNKNOWN;
        }
        if (!imageOf(i).kept) {
            return NOT;
        }
        imageOf(i).giveTo(current);
        return 1;
    }

    private Image imageOf(int i) {
        return i == 0 ? firstImage : secondImage;
    }

    private boolean nothingCanBeTried() {
        return current.law == BY_TURNS || current.letterCount == 0;
    }

    /** Puts into agreedStones what the set agrees on; false if one of it would need too many. */
    private boolean agreeOnWeight(int set) {
        int heaviest = 0;
        for (int l = 0; l < current.letterCount; l++) {
            if (isIn(set, l)) {
                heaviest = Math.max(heaviest, at(current.weights, l) + at(current.stones, l));
            }
        }
        copyRow(current.stones, agreedStones);
        for (int l = 0; l < current.letterCount; l++) {
            if (isIn(set, l)) {
                int needed = heaviest - at(current.weights, l);
                if (needed > MOST_STONES) {
                    return false;
                }
                put(agreedStones, l, needed);
            }
        }
        return true;
    }

    private static boolean isIn(int set, int member) {
        return (set >> member & 1) != 0;
    }

    // Every row is read and written through these, so that no index is used untested.

    private static int at(int[] row, int i) {
        return i >= 0 && i < row.length ? row[i] : 0;
    }

    private static void put(int[] row, int i, int value) {
        if (i >= 0 && i < row.length) {
            row[i] = value;
        }
    }

    private static void copyRow(int[] from, int[] to) {
        for (int i = 0; i < from.length && i < to.length; i++) {
            to[i] = from[i];
        }
    }

    private static int sum(int[] row, int count) {
        int sum = 0;
        for (int i = 0; i < count; i++) {
            sum += at(row, i);
        }
        return sum;
    }

    private static boolean sameRows(int[] one, int[] other, int count) {
        for (int i = 0; i < count; i++) {
            if (at(one, i) != at(other, i)) {
                return false;
            }
        }
        return true;
    }

    /** Places and letters as they are now, with all that calls may change in them. */
    private static final class Town {
        final int[] xs = new int[MOST_PLACES];
        final int[] ys = new int[MOST_PLACES];
        final int[] goals = new int[MOST_LETTERS];
        final int[] weights = new int[MOST_LETTERS];
        final int[] dues = new int[MOST_LETTERS];
        final int[] worths = new int[MOST_LETTERS];
        final int[] stones = new int[MOST_LETTERS];
        int placeCount;
        int letterCount;
        int cost = 1;
        int law = HEAVIEST;
        int seedNow;

        boolean hasPlace(int p) {
            return p >= 0 && p < placeCount;
        }

        boolean hasLetter(int l) {
            return l >= 0 && l < letterCount;
        }

        int apart(int p, int q) {
            return Math.abs(at(xs, p) - at(xs, q)) + Math.abs(at(ys, p) - at(ys, q));
        }

        void addPlace(int x, int y) {
            put(xs, placeCount, x);
            put(ys, placeCount, y);
            placeCount++;
        }

        void addLetter(int goal, int weight, int due, int worth) {
            put(goals, letterCount, goal);
            put(weights, letterCount, weight);
            put(dues, letterCount, due);
            put(worths, letterCount, worth);
            put(stones, letterCount, 0);
            letterCount++;
        }

        /** Takes over what a text tells; law and seed are told by no text and stay. */
        void becomeTold(Town draft) {
            copyRow(draft.xs, xs);
            copyRow(draft.ys, ys);
            copyRow(draft.goals, goals);
            copyRow(draft.weights, weights);
            copyRow(draft.dues, dues);
            copyRow(draft.worths, worths);
            copyRow(draft.stones, stones);
            placeCount = draft.placeCount;
            letterCount = draft.letterCount;
            cost = draft.cost;
        }

        void drawLetters() {
            for (int l = 0; l < letterCount; l++) {
                put(weights, l, draw(99) + 1);
                put(goals, l, draw(placeCount));
                put(stones, l, 0);
            }
        }

        private int draw(int n) {
            seedNow = (int) ((seedNow * 1103515245L + 12345L) & 0x7fffffffL);
            return n > 0 ? seedNow / 65536 % n : 0;
        }
    }

    /** The order that comes of stones by the law, and the walk along it. */
    private static final class Route {
        final int[] heavy = new int[MOST_LETTERS];
        final int[] row = new int[MOST_LETTERS];
        final int[] comes = new int[MOST_LETTERS];
        int minutes;

        void lay(Town town, int[] stones) {
            weigh(town, stones);
            sort(town.letterCount, town.law);
            walk(town);
        }

        void weigh(Town town, int[] stones) {
            for (int l = 0; l < town.letterCount; l++) {
                put(heavy, l, at(town.weights, l) + at(stones, l));
            }
        }

        void sort(int count, int law) {
            int taken = 0;
            for (int k = 0; k < count; k++) {
                boolean heaviest = law == HEAVIEST || law == BY_TURNS && k % 2 == 0;
                int pick = NONE;
                int pickHeavy = 0;
                for (int l = 0; l < count; l++) {
                    if (!isIn(taken, l)) {
                        int own = at(heavy, l);
                        // of like ones the least letter: only a true difference displaces one
                        if (pick == NONE || (heaviest ? own > pickHeavy : own < pickHeavy)) {
                            pick = l;
                            pickHeavy = own;
                        }
                    }
                }
                put(row, k, pick);
                taken |= 1 << pick;
            }
        }

        private void walk(Town town) {
            minutes = 0;
            int from = 0;
            for (int k = 0; k < town.letterCount; k++) {
                int l = at(row, k);
                int to = at(town.goals, l);
                minutes += town.apart(from, to);
                put(comes, l, minutes);
                from = to;
            }
        }

        int rankOf(int l, int count) {
            for (int k = 0; k < count; k++) {
                if (at(row, k) == l) {
                    return k;
                }
            }
            return NONE;
        }

        boolean isInTime(Town town, int l) {
            return at(comes, l) <= at(town.dues, l);
        }

        int lettersInTime(Town town) {
            int set = 0;
            for (int l = 0; l < town.letterCount; l++) {
                if (isInTime(town, l)) {
                    set |= 1 << l;
                }
            }
            return set;
        }

        int had(Town town, int l, int stoneCount, int cost) {
            return (isInTime(town, l) ? at(town.worths, l) : 0) - cost * stoneCount;
        }

        int hadOfAll(Town town, int[] stones) {
            int sum = 0;
            for (int l = 0; l < town.letterCount; l++) {
                sum += had(town, l, at(stones, l), town.cost);
            }
            return sum;
        }

        /** The longer walk if one postman takes the first letters of the order and another one the rest. */
        int longerOfTwo(Town town, int first) {
            int one = first > 0 ? at(comes, at(row, first - 1)) : 0;
            if (first >= town.letterCount) {
                return one;
            }
            int start = at(row, first);
            int other = town.apart(0, at(town.goals, start)) + minutes - at(comes, start);
            return Math.max(one, other);
        }
    }

    /** Tries all orders, the first ones first, so that of like ones the first stays. */
    private static final class Search {
        private final int[] row = new int[MOST_LETTERS];
        private final int[] bestRow = new int[MOST_LETTERS];
        private boolean allInTime;
        boolean found;
        int bestMinutes;
        int bestStones;

        void seek(Town town, boolean onlyAllInTime) {
            allInTime = onlyAllInTime;
            found = false;
            bestMinutes = 0;
            bestStones = 0;
            extend(town, 0, 0, 0);
        }

        int letterAt(int i, int count) {
            return i >= 0 && i < count ? at(bestRow, i) : NONE;
        }

        /** The row holds depth letters, those of taken; their walk is that many minutes. */
        private void extend(Town town, int depth, int taken, int minutes) {
            if (depth >= town.letterCount || depth >= MOST_LETTERS) {
                consider(town, minutes);
                return;
            }
            for (int l = 0; l < town.letterCount; l++) {
                if (!isIn(taken, l)) {
                    append(town, l, depth, taken, minutes);
                }
            }
        }

        private void append(Town town, int l, int depth, int taken, int minutes) {
            int from = depth == 0 ? 0 : at(town.goals, at(row, depth - 1));
            int comes = minutes + town.apart(from, at(town.goals, l));
            if (mayLead(town, l, comes)) {
                put(row, depth, l);
                extend(town, depth + 1, taken | 1 << l, comes);
            }
        }

        /** A walk never gets shorter, so a late letter or too long a walk spoils all orders that begin so. */
        private boolean mayLead(Town town, int l, int comes) {
            if (allInTime) {
                return comes <= at(town.dues, l);
            }
            return !found || comes <= bestMinutes;
        }

        private void consider(Town town, int minutes) {
            int stones = fewestStones(town);
            if (stones != NONE && (!found || isBetter(stones, minutes))) {
                found = true;
                bestMinutes = minutes;
                bestStones = stones;
                copyRow(row, bestRow);
            }
        }

        private boolean isBetter(int stones, int minutes) {
            if (allInTime) {
                return stones < bestStones || stones == bestStones && minutes < bestMinutes;
            }
            return minutes < bestMinutes || minutes == bestMinutes && stones < bestStones;
        }

        /** From the lightest letter on each is to be just as heavy as lets it keep its place. */
        private int fewestStones(Town town) {
            int count = town.letterCount;
            boolean backwards = town.law == HEAVIEST;
            int sum = 0;
            int lighter = NONE;
            int lighterHeavy = 0;
            for (int k = 0; k < count; k++) {
                int l = at(row, backwards ? count - 1 - k : k);
                boolean mayBeLike = backwards ? l < lighter : lighter < l;
                int needed = mayBeLike ? lighterHeavy : lighterHeavy + 1;
                int stones = Math.max(0, needed - at(town.weights, l));
                if (stones > MOST_STONES) {
                    return NONE;
                }
                sum += stones;
                lighter = l;
                lighterHeavy = at(town.weights, l) + stones;
            }
            return sum;
        }
    }

    /** Senders who answer one another, with stones of their own that the town does not see. */
    private static final class Senders {
        final int[] stones = new int[MOST_LETTERS];
        private final Route route = new Route();
        private final int[] seen = new int[MOST_ROUNDS];
        int rounds;

        void begin(Town town) {
            copyRow(town.stones, stones);
        }

        int bestStones(Town town, int l, int cost) {
            int was = at(stones, l);
            int most = at(town.worths, l);
            int best = 0;
            int bestHad = 0;
            for (int n = 0; n <= MOST_STONES; n++) {
                // more than the worth is never had, so dearer stones can no longer gain
                if (n > 0 && most - cost * n <= bestHad) {
                    break;
                }
                put(stones, l, n);
                route.lay(town, stones);
                int had = route.had(town, l, n, cost);
                if (n == 0 || had > bestHad) {
                    best = n;
                    bestHad = had;
                }
            }
            put(stones, l, was);
            return best;
        }

        /** Plays rounds till one changes nothing; false if that does not come. */
        boolean settle(Town town, int cost) {
            begin(town);
            for (int round = 0; round < MOST_ROUNDS; round++) {
                put(seen, round, packed());
                boolean changed = false;
                for (int l = 0; l < town.letterCount; l++) {
                    int best = bestStones(town, l, cost);
                    changed = changed || best != at(stones, l);
                    put(stones, l, best);
                }
                if (!changed) {
                    rounds = round;
                    return true;
                }
                if (wasSeen(round + 1)) {
                    return false;
                }
            }
            return false;
        }

        /** Stones that come again bring the same rounds again, so there is no rest behind them. */
        private boolean wasSeen(int count) {
            int now = packed();
            for (int k = 0; k < count; k++) {
                if (at(seen, k) == now) {
                    return true;
                }
            }
            return false;
        }

        private int packed() {
            int all = 0;
            for (int l = 0; l < MOST_LETTERS; l++) {
                all = all * (MOST_STONES + 1) + at(stones, l);
            }
            return all;
        }
    }

    /** What goBack brings again. */
    private static final class Image {
        private final int[] goals = new int[MOST_LETTERS];
        private final int[] weights = new int[MOST_LETTERS];
        private final int[] stones = new int[MOST_LETTERS];
        private int cost;
        private int law;
        private int seedKept;
        boolean kept;

        void keepOf(Town town) {
            copyRow(town.goals, goals);
            copyRow(town.weights, weights);
            copyRow(town.stones, stones);
            cost = town.cost;
            law = town.law;
            seedKept = town.seedNow;
            kept = true;
        }

        void giveTo(Town town) {
            copyRow(goals, town.goals);
            copyRow(weights, town.weights);
            copyRow(stones, town.stones);
            town.cost = cost;
            town.law = law;
            town.seedNow = seedKept;
        }
    }

    /** The text, and the draft of a town that is read from it. */
    private static final class Reader {
        private final byte[] text = new byte[MOST_BYTES];
        final Town draft = new Town();
        int length;
        int faultPlace = NONE;
        private int position;
        private int fault;
        private boolean costTold;

        void add(byte b) {
            if (length >= 0 && length < text.length) {
                text[length] = b;
                length++;
            }
        }

        /** The number of the fault, 0 if there is none; the text is empty then. */
        int read() {
            draft.placeCount = 0;
            draft.letterCount = 0;
            draft.cost = 1;
            costTold = false;
            position = 0;
            fault = 0;
            faultPlace = NONE;
            skipBlanks();
            // a clause takes one byte at least, or it has a fault
            for (int clause = 0; clause < MOST_BYTES && position < length && fault == 0; clause++) {
                readClause();
                skipBlanks();
            }
            length = 0;
            return fault;
        }

        private void readClause() {
            int from = position;
            while (position < length && isBetween('a', 'z')) {
                position++;
            }
            if (isWord(from, "place")) {
                readPlace(from);
            } else if (isWord(from, "letter")) {
                readLetter(from);
            } else if (isWord(from, "stone")) {
                readStone(from);
            } else {
                fail(CANNOT_STAND, from);
            }
        }

        private void readPlace(int from) {
            if (draft.placeCount >= MOST_PLACES) {
                fail(TOO_MANY, from);
            }
            int x = readNumber(0, 99);
            int y = readNumber(0, 99);
            readEnd();
            if (fault == 0) {
                draft.addPlace(x, y);
            }
        }

        private void readLetter(int from) {
            if (draft.letterCount >= MOST_LETTERS) {
                fail(TOO_MANY, from);
            }
            int goal = readNumber(0, draft.placeCount - 1);
            int weight = readNumber(1, 99);
            int due = readNumber(0, 999);
            int worth = readNumber(0, 99);
            readEnd();
            if (fault == 0) {
                draft.addLetter(goal, weight, due, worth);
            }
        }

        private void readStone(int from) {
            if (costTold) {
                fail(TOO_MANY, from);
            }
            int cost = readNumber(0, MOST_PRICE);
            readEnd();
            if (fault == 0) {
                draft.cost = cost;
                costTold = true;
            }
        }

        private int readNumber(int least, int most) {
            skipBlanks();
            int from = position;
            int value = 0;
            while (position < length && isBetween('0', '9')) {
                // one figure too many is a fault whatever the value, so longer ones need not be counted out
                if (position - from < MOST_FIGURES) {
                    value = value * 10 + byteAt(position) - '0';
                }
                position++;
            }
            int figures = position - from;
            if (figures == 0) {
                fail(CANNOT_STAND, from);
            } else if (figures > MOST_FIGURES || value < least || value > most) {
                fail(BAD_NUMBER, from);
            }
            return value;
        }

        private void readEnd() {
            skipBlanks();
            if (position < length && byteAt(position) == ';') {
                position++;
            } else {
                fail(CANNOT_STAND, position);
            }
        }

        /** Only the first fault counts; reading goes on behind it, but tells no more. */
        private void fail(int number, int where) {
            if (fault == 0) {
                fault = number;
                faultPlace = where;
            }
        }

        private void skipBlanks() {
            while (position < length && byteAt(position) == ' ') {
                position++;
            }
        }

        private boolean isWord(int from, String word) {
            if (position - from != word.length()) {
                return false;
            }
            for (int k = 0; k < word.length(); k++) {
                if (byteAt(from + k) != word.charAt(k)) {
                    return false;
                }
            }
            return true;
        }

        private boolean isBetween(char least, char most) {
            return byteAt(position) >= least && byteAt(position) <= most;
        }

        private int byteAt(int i) {
            return i >= 0 && i < text.length ? text[i] : 0;
        }
    }
}
