/** Promises 14 to 20: what is tried with stones, by senders, and by two postmen. */
public final class TriedTest {
    // on a line: the office at 0, places at 10, 20, 30, 40
    private static final String LINE = "place 0 0;place 10 0;place 20 0;place 30 0;place 40 0;";

    public static void main(String[] args) {
        shortest();
        shortestOfLikeOnes();
        shortestWithinNine();
        inTime();
        inTimeOfLikeOnes();
        triedRefused();
        answer();
        answerOfLikeOnes();
        rests();
        restsNever();
        restsIsFresh();
        best();
        agreed();
        agreedRefused();
        two();
        Check.end("TriedTest");
    }

    private static void shortestIs(HeaviestFirst x, int walk, int stones, int... order) {
        Check.due("shortest(-1)", x.shortest(-1), walk);
        Check.due("shortest(-2)", x.shortest(-2), stones);
        for (int i = 0; i < order.length; i++) {
            Check.due("shortest(" + i + ")", x.shortest(i), order[i]);
        }
        Check.due("shortest behind", x.shortest(order.length), Check.NONE);
        Check.due("shortest(-3)", x.shortest(-3), Check.NONE);
        Check.due("shortest(least)", x.shortest(Integer.MIN_VALUE), Check.NONE);
        Check.due("shortest(most)", x.shortest(Integer.MAX_VALUE), Check.NONE);
    }

    private static void inTimeIs(HeaviestFirst x, int stones, int walk, int... order) {
        Check.due("inTime(-1)", x.inTime(-1), stones);
        Check.due("inTime(-2)", x.inTime(-2), walk);
        for (int i = 0; i < order.length; i++) {
            Check.due("inTime(" + i + ")", x.inTime(i), order[i]);
        }
        Check.due("inTime behind", x.inTime(order.length), Check.NONE);
        Check.due("inTime(-3)", x.inTime(-3), Check.NONE);
        Check.due("inTime(least)", x.inTime(Integer.MIN_VALUE), Check.NONE);
        Check.due("inTime(most)", x.inTime(Integer.MAX_VALUE), Check.NONE);
    }

    private static void shortest() {
        HeaviestFirst x = Check.town(LINE + "letter 3 9 99 1;letter 1 7 99 1;letter 2 8 99 1;", 3);
        Check.due("told(5)", x.told(5), 30 + 10 + 10);
        // 1 ahead of 2 ahead of 0, the last one at 9: 0 needs none, 2 needs 2 (10, for it is no lesser LETTER), 1 needs 3
        shortestIs(x, 30, 5, 1, 2, 0);
        // by the other law from the first one on: 1 is 7, 2 is 8, 0 is 9
        x.law(1);
        shortestIs(x, 30, 0, 1, 2, 0);
        // the STONES there now do not count
        x.stones(1, 9);
        shortestIs(x, 30, 0, 1, 2, 0);
        x.law(0);
        shortestIs(x, 30, 5, 1, 2, 0);
        Check.due("STONES stay", x.told(6), 9);
        // a lesser LETTER may be like the next one, a greater one may not, by each law
        x = Check.town(LINE + "letter 1 5 99 1;letter 2 6 99 1;", 2);
        shortestIs(x, 20, 1, 0, 1);
        x.law(1);
        shortestIs(x, 20, 0, 0, 1);
        x = Check.town(LINE + "letter 2 5 99 1;letter 1 5 99 1;", 2);
        shortestIs(x, 20, 1, 1, 0);
        x.law(1);
        shortestIs(x, 20, 1, 1, 0);
    }

    private static void shortestOfLikeOnes() {
        // all to one PLACE: every ORDER is as short, the fewest STONES are none
        HeaviestFirst x = Check.town(LINE + "letter 1 5 99 1;letter 1 9 99 1;letter 1 7 99 1;", 3);
        shortestIs(x, 10, 0, 1, 2, 0);
        x.law(1);
        shortestIs(x, 10, 0, 0, 2, 1);
        // the WALK ahead of the STONES: 3 and 0 at the office, 1 and 2 on one PLACE
        x = Check.town("place 0 0;place 5 0;letter 0 4 9 1;letter 1 9 9 1;letter 1 4 9 1;letter 0 5 9 1;", 4);
        // 2 stays 4, 1 stays 9, 0 is like it by 5, 3 is ahead of it at 10 by 5; 0 ahead of 3 would need 6
        shortestIs(x, 5, 10, 3, 0, 1, 2);
        // 3 has 10 at most, so 2 (at 10 ahead of 0) cannot be behind it; 1, 3, 0, 2 and 3, 0, 2, 1 are 70 long
        // and need 3 and 9, 9 and 3: the first of them
        x = Check.town(LINE + "letter 4 9 20 1;letter 1 7 70 1;letter 3 5 70 1;letter 0 1 90 1;", 4);
        shortestIs(x, 70, 12, 1, 3, 0, 2);
    }

    private static void shortestWithinNine() {
        // 1 would be ahead by 10 STONES (10 more, no lesser LETTER): it cannot be
        HeaviestFirst x = Check.town(LINE + "letter 2 20 99 1;letter 1 11 99 1;", 2);
        shortestIs(x, 30, 0, 0, 1);
        // 9 STONES can be
        x = Check.town(LINE + "letter 2 20 99 1;letter 1 12 99 1;", 2);
        shortestIs(x, 20, 9, 1, 0);
        // the lesser LETTER may be like: 9 STONES bridge 9
        x = Check.town(LINE + "letter 1 11 99 1;letter 2 20 99 1;", 2);
        shortestIs(x, 20, 9, 0, 1);
        x = Check.town(LINE + "letter 1 10 99 1;letter 2 20 99 1;", 2);
        shortestIs(x, 30, 0, 1, 0);
        // by LAW 1 the last ones get the STONES
        x = Check.town(LINE + "letter 2 12 99 1;letter 1 20 99 1;", 2);
        x.law(1);
        shortestIs(x, 20, 9, 1, 0);
        x = Check.town(LINE + "letter 2 11 99 1;letter 1 20 99 1;", 2);
        x.law(1);
        shortestIs(x, 30, 0, 0, 1);
        x = Check.town(LINE + "letter 2 20 99 1;letter 1 11 99 1;", 2);
        x.law(1);
        shortestIs(x, 20, 0, 1, 0);
        x = Check.town(LINE + "letter 4 9 99 1;", 1);
        shortestIs(x, 40, 0, 0);
    }

    private static void inTime() {
        // 0 is due at 30, so 1 and 2 may come ahead of it only on the way
        HeaviestFirst x = Check.town(LINE + "letter 3 9 30 1;letter 1 7 50 1;letter 2 8 40 1;", 3);
        inTimeIs(x, 0, 50, 0, 2, 1);
        Check.feed(x, LINE + "letter 3 9 30 1;letter 1 7 50 1;letter 2 8 39 1;");
        Check.due("town()", x.town(), 3);
        // 2 on the way (2 STONES), 1 behind 0
        inTimeIs(x, 2, 50, 2, 0, 1);
        Check.feed(x, LINE + "letter 3 9 29 1;letter 1 7 50 1;letter 2 8 39 1;");
        Check.due("town()", x.town(), 3);
        inTimeIs(x, Check.NONE, Check.NONE, Check.NONE, Check.NONE, Check.NONE);
        // in time by an ORDER that no STONES can bring about is not in time
        x = Check.town(LINE + "letter 2 20 99 1;letter 1 11 10 1;", 2);
        inTimeIs(x, Check.NONE, Check.NONE, Check.NONE, Check.NONE);
        x = Check.town(LINE + "letter 2 20 99 1;letter 1 12 10 1;", 2);
        inTimeIs(x, 9, 20, 1, 0);
        x.law(1);
        inTimeIs(x, 0, 20, 1, 0);
    }

    private static void inTimeOfLikeOnes() {
        // fewest STONES count ahead of the WALK
        HeaviestFirst x = Check.town(LINE + "letter 3 9 99 1;letter 1 7 99 1;letter 2 8 99 1;", 3);
        inTimeIs(x, 0, 50, 0, 2, 1);
        // then the least WALK: 3 STONES in 2 bring about 2, 1, 0; 3 in 0 bring about 1, 0, 2 of 50 minutes
        x = Check.town(LINE + "letter 3 4 30 1;letter 2 9 90 1;letter 1 7 70 1;", 3);
        inTimeIs(x, 3, 30, 2, 1, 0);
        // then the first: one STONE in 3 brings about 1, 2, 3, 0, one in 1 brings about 3, 1, 2, 0, both of 40 minutes
        x = Check.town(LINE + "letter 0 8 40 1;letter 1 5 70 1;letter 2 6 50 1;letter 0 5 80 1;", 4);
        x.law(1);
        inTimeIs(x, 1, 40, 1, 2, 3, 0);
        // then the first of like ones
        x = Check.town("place 0 0;place 5 5;letter 1 5 99 1;letter 1 5 99 1;letter 1 5 99 1;", 3);
        inTimeIs(x, 0, 10, 0, 1, 2);
        x.law(1);
        inTimeIs(x, 0, 10, 0, 1, 2);
    }

    private static void triedRefused() {
        HeaviestFirst x = Check.town(LINE + "letter 1 5 99 1;", 1);
        x.law(2);
        for (int i = -4; i < 3; i++) {
            Check.due("LAW 2: shortest", x.shortest(i), Check.NOT);
            Check.due("LAW 2: inTime", x.inTime(i), Check.NOT);
        }
        x = Check.town(LINE, 0);
        for (int i = -4; i < 3; i++) {
            Check.due("no LETTERS: shortest", x.shortest(i), Check.NOT);
            Check.due("no LETTERS: inTime", x.inTime(i), Check.NOT);
        }
    }

    private static void answer() {
        // 0 comes at 40 + 30; to be in time it must be ahead of 1
        String both = "letter 1 5 10 6;letter 4 9 99 5;stone 1;";
        HeaviestFirst x = Check.town(LINE + both, 2);
        Check.due("answer(0)", x.answer(0), 4);
        Check.due("answer(1)", x.answer(1), 0);
        Check.due("told(6)", x.told(6), 0);
        x.stones(1, 1);
        Check.due("all others as they are", x.answer(0), 5);
        x.stones(0, 9);
        Check.due("its own do not count", x.answer(0), 5);
        x.stones(1, 2);
        Check.due("6 STONES cost as much as it is worth", x.answer(0), 0);
        x.price(0);
        Check.due("STONES that cost nothing", x.answer(0), 6);
        x.stones(1, 6);
        Check.due("more than 9 are needed", x.answer(0), 0);
        x.stones(1, 5);
        Check.due("9 are", x.answer(0), 9);
        x.law(1);
        Check.due("by LAW 1 none", x.answer(0), 0);
        Check.due("answer(2)", x.answer(2), Check.UNKNOWN);
        Check.due("answer(-1)", x.answer(-1), Check.UNKNOWN);
    }

    private static void answerOfLikeOnes() {
        // nothing is had by any STONES: none
        HeaviestFirst x = Check.town(LINE + "letter 4 5 39 6;letter 1 9 99 5;stone 0;", 2);
        Check.due("always late", x.answer(0), 0);
        Check.due("in time as it is", x.answer(1), 0);
        x.stones(1, 7);
        Check.due("STONES in vain", x.answer(1), 0);
        // by LAW 2 the heaviest is first; as the heaviest but one of three it is last
        x = Check.town(LINE + "letter 1 5 10 50;letter 2 7 99 5;letter 4 6 99 5;", 3);
        x.law(2);
        Check.due("by turns", x.answer(0), 2);
        Check.due("by turns", x.letter(0, 7), 20 + 10);
    }

    private static void rests() {
        String both = "letter 1 5 10 60;letter 4 9 99 5;stone 1;";
        HeaviestFirst x = Check.town(LINE + both, 2);
        x.stones(1, 3);
        // round 1: 0 takes 7 against 12, then 1 takes none; round 2: 0 takes 4 against 9; round 3 changes nothing
        Check.due("rests(-1)", x.rests(-1), 2);
        Check.due("rests(-2)", x.rests(-2), 60 + 5 - 4);
        Check.due("rests(-3)", x.rests(-3), 40);
        Check.due("rests(0)", x.rests(0), 4);
        Check.due("rests(1)", x.rests(1), 0);
        Check.due("rests(2)", x.rests(2), Check.UNKNOWN);
        Check.due("rests(-4)", x.rests(-4), Check.UNKNOWN);
        Check.due("rests(least)", x.rests(Integer.MIN_VALUE), Check.UNKNOWN);
        Check.due("rests(most)", x.rests(Integer.MAX_VALUE), Check.UNKNOWN);
        Check.due("STONES stay", x.letter(1, 4), 3);
        x.stones(0, 4);
        x.stones(1, 0);
        Check.due("at rest", x.rests(-1), 0);
        Check.due("at rest", x.rests(0), 4);
        x.price(20);
        Check.due("too dear now", x.rests(0), 0);
        Check.due("too dear now", x.rests(-1), 1);
        Check.due("too dear now", x.rests(-3), 40 + 30);
        x = Check.town(LINE, 0);
        Check.due("no LETTERS", x.rests(-1), 0);
        Check.due("no LETTERS", x.rests(-2), 0);
        Check.due("no LETTERS", x.rests(-3), 0);
        Check.due("no LETTERS", x.rests(0), Check.UNKNOWN);
        Check.due("no LETTERS", x.rests(-4), Check.UNKNOWN);
    }

    private static void restsNever() {
        // each wants to be first, and who cannot takes none
        HeaviestFirst x = Check.town("place 0 0;place 10 0;place 0 10;letter 1 5 10 50;letter 2 5 10 50;", 2);
        for (int l = -3; l < 2; l++) {
            Check.due("rests(" + l + ")", x.rests(l), Check.NONE);
        }
        Check.due("rests(2)", x.rests(2), Check.UNKNOWN);
        Check.due("rests(-4)", x.rests(-4), Check.UNKNOWN);
        Check.due("STONES stay", x.told(6), 0);
        // 0 can outbid 1 if it is as heavy with 9
        x = Check.town("place 0 0;place 10 0;place 0 10;letter 1 6 10 50;letter 2 5 10 50;", 2);
        x.stones(0, 8);
        Check.due("rests(-1)", x.rests(-1), Check.NONE);
        x.price(6);
        Check.due("rests(-1)", x.rests(-1), Check.NONE);
        x.price(50);
        Check.due("at 50 nobody takes any", x.rests(-1), 1);
        Check.due("at 50 nobody takes any", x.rests(-2), 50);
    }

    private static void restsIsFresh() {
        HeaviestFirst x = Check.town(LINE + "letter 1 5 10 60;letter 4 9 99 5;stone 1;", 2);
        Check.due("rests(0)", x.rests(0), 4);
        Check.due("answer(1)", x.answer(1), 0);
        Check.due("best()", x.best(), 0);
        Check.due("rests(0) again", x.rests(0), 4);
        Check.due("told(2)", x.told(2), 1);
    }

    private static void best() {
        // 0 is worth 10 and 4 STONES make it first: up to C = 2 it takes them; the least of like ones is 0
        HeaviestFirst x = Check.town(LINE + "letter 1 5 10 10;letter 4 9 99 5;stone 50;", 2);
        Check.due("best()", x.best(), 0);
        Check.due("C stays", x.told(2), 50);
        // by 3 STONES 0 is first and in time, but the WALK is 40 + 50 then, not 10 + 50: from C = 3 on it takes none
        x = Check.town("place 50 0;place 90 0;place 40 0;letter 1 5 40 9;letter 2 8 99 5;stone 0;", 2);
        Check.due("best()", x.best(), 3);
        x = Check.town("place 50 0;place 10 0;place 90 0;letter 1 4 40 20;letter 2 4 40 20;stone 0;", 2);
        // 1 wants to be ahead (1 STONE), then 0, and so on: no rest until C = 20
        Check.due("rests(-1)", x.rests(-1), Check.NONE);
        Check.due("best()", x.best(), 20);
        x = Check.town("place 50 0;place 10 0;place 90 0;letter 1 4 40 21;letter 2 4 40 21;stone 21;", 2);
        Check.due("at 21 there is a rest", x.rests(-1), 0);
        Check.due("best()", x.best(), Check.NONE);
        Check.due("no LETTERS", Check.town(LINE, 0).best(), 0);
    }

    private static void agreed() {
        HeaviestFirst x = Check.town(LINE + "letter 3 9 99 1;letter 1 7 99 1;letter 2 8 99 1;stone 4;", 3);
        // 1 and 0 as heavy as 9: 0, 1, 2: 30 + 20 + 10
        Check.due("agreed(3, 0)", x.agreed(3, 0), 50 - 60);
        Check.due("agreed(3, 1)", x.agreed(3, 1), 8);
        // 1 and 2 as heavy as 8: 0, 1, 2
        Check.due("agreed(6, 0)", x.agreed(6, 0), 50 - 60);
        Check.due("agreed(6, 1)", x.agreed(6, 1), 4);
        Check.due("agreed(7, 1)", x.agreed(7, 1), 12);
        Check.due("agreed(1, 0)", x.agreed(1, 0), 0);
        Check.due("agreed(1, 1)", x.agreed(1, 1), 0);
        Check.due("agreed(4, 0)", x.agreed(4, 0), 0);
        Check.due("agreed(4, 1)", x.agreed(4, 1), 0);
        // STONES now count in HEAVY, and are had already
        x.stones(1, 3);
        Check.due("told(5)", x.told(5), 10 + 20 + 10);
        Check.due("agreed(6, 0)", x.agreed(6, 0), 40 - 30);
        Check.due("agreed(6, 1)", x.agreed(6, 1), 8);
        Check.due("agreed(3, 0)", x.agreed(3, 0), 40 - 60);
        Check.due("agreed(3, 1)", x.agreed(3, 1), 4);
        Check.due("STONES stay", x.told(6), 3);
        x.stones(0, 2);
        Check.due("agreed(6, 1), another one has STONES", x.agreed(6, 1), 8);
        x.stones(0, 0);
        x.law(1);
        // by LAW 1: 8 at 20, 9 at 30, 10 at 10: 50; 1 and 2 at 10: 0, 1, 2: 30 + 20 + 10
        Check.due("agreed(6, 0) by LAW 1", x.agreed(6, 0), 50 - 60);
        x.law(2);
        // by LAW 2: 1 (10), 2 (8), 0 (9): 10 + 10 + 10; all at 10: 0, 1, 2
        Check.due("agreed(7, 0) by LAW 2", x.agreed(7, 0), 30 - 60);
    }

    private static void agreedRefused() {
        HeaviestFirst x = Check.town(LINE + "letter 3 20 99 1;letter 1 11 99 1;letter 2 10 99 1;", 3);
        Check.due("9 are needed", x.agreed(3, 1), 9);
        Check.due("10 are needed", x.agreed(5, 1), Check.NOT);
        Check.due("10 are needed", x.agreed(5, 0), Check.NOT);
        Check.due("10 are needed in one", x.agreed(7, 0), Check.NOT);
        x.stones(2, 1);
        Check.due("10 in all, one is there", x.agreed(5, 1), Check.NOT);
        Check.due("agreed(0, 0)", x.agreed(0, 0), Check.UNKNOWN);
        Check.due("agreed(8, 0)", x.agreed(8, 0), Check.UNKNOWN);
        Check.due("agreed(9, 0)", x.agreed(9, 0), Check.UNKNOWN);
        Check.due("agreed(-1, 0)", x.agreed(-1, 0), Check.UNKNOWN);
        Check.due("agreed(least, 0)", x.agreed(Integer.MIN_VALUE, 0), Check.UNKNOWN);
        Check.due("agreed(least and 1, 0)", x.agreed(Integer.MIN_VALUE + 1, 0), Check.UNKNOWN);
        Check.due("agreed(0, 2)", x.agreed(0, 2), Check.UNKNOWN);
        Check.due("agreed(8, 2)", x.agreed(8, 2), Check.UNKNOWN);
        Check.due("agreed(3, 2)", x.agreed(3, 2), Check.OUTSIDE);
        Check.due("agreed(3, -1)", x.agreed(3, -1), Check.OUTSIDE);
        Check.due("agreed(5, 2)", x.agreed(5, 2), Check.OUTSIDE);
        x = Check.town(LINE + "letter 1 1 9 1;".repeat(7), 7);
        Check.due("agreed(127, 0)", x.agreed(127, 0), 0);
        Check.due("agreed(128, 0)", x.agreed(128, 0), Check.UNKNOWN);
    }

    private static void two() {
        // in order 0 at 40, 1 at 10, 2 at 20: one takes 40, the other one 10 + 10
        HeaviestFirst x = Check.town(LINE + "letter 4 9 99 1;letter 1 8 99 1;letter 2 7 99 1;", 3);
        Check.due("two(0)", x.two(0), 1);
        Check.due("two(1)", x.two(1), 40);
        // 20, 10, 40: k = 0: 60, 1: 20 and 10 + 30, 2: 20 + 10 and 40, 3: 60
        x.law(1);
        Check.due("by LAW 1: two(0)", x.two(0), 1);
        Check.due("by LAW 1: two(1)", x.two(1), 40);
        // 10 and 20 to the one side, 40 to the other one: k = 2 leaves 20 and 40
        x = Check.town("place 50 0;place 40 0;place 30 0;place 90 0;"
                + "letter 1 9 99 1;letter 2 8 99 1;letter 3 7 99 1;", 3);
        Check.due("both sides: two(0)", x.two(0), 2);
        Check.due("both sides: two(1)", x.two(1), 40);
        // by turns 1, 3, 2: k = 1 leaves 10 and 40 + 60, k = 2 leaves 10 + 50 and 20
        x.law(2);
        Check.due("by turns: two(0)", x.two(0), 2);
        Check.due("by turns: two(1)", x.two(1), 60);
        Check.due("two(2)", x.two(2), Check.OUTSIDE);
        Check.due("two(-1)", x.two(-1), Check.OUTSIDE);
        // like ones: all by the one or all by the other one: the least k
        x = Check.town(LINE + "letter 3 9 99 1;", 1);
        Check.due("one LETTER: two(0)", x.two(0), 0);
        Check.due("one LETTER: two(1)", x.two(1), 30);
        x = Check.town(LINE + "letter 1 9 99 1;letter 2 8 99 1;letter 3 7 99 1;", 3);
        Check.due("on the way: two(0)", x.two(0), 0);
        Check.due("on the way: two(1)", x.two(1), 30);
        x = Check.town("place 0 0;", 0);
        Check.due("no LETTERS: two(0)", x.two(0), 0);
        Check.due("no LETTERS: two(1)", x.two(1), 0);
        Check.due("no LETTERS: two(2)", x.two(2), Check.OUTSIDE);
    }
}
