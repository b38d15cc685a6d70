/** Promises 14 to 20, at the edges that the document names; each under the words that name it. */
public final class TriedEdgesTest {
    private static final int LEAST = Integer.MIN_VALUE, MOST = Integer.MAX_VALUE;
    private static final int[] OUT_OF_TWO = {-1, 2, 3, LEAST, MOST};
    // on a line: the office at 0, then 10, 20, 30, 40
    private static final String LINE = Told.line(5);

    public static void main(String[] args) {
        triedAsked();
        triedNotNow();
        nothingInTime();
        nineStonesCanBe();
        nineStonesInSeveral();
        shortestOfLikeOnes();
        inTimeOfLikeOnes();
        dueToTheMinute();
        answerAsked();
        answerOfNine();
        answerOfLikeOnes();
        restsAsked();
        restsWithoutLetters();
        restsNever();
        restsByTheThirtieth();
        bestFromNoughtToTwenty();
        bestPassesOver();
        agreedAsked();
        agreedOfNine();
        agreedByHowMuch();
        twoAsked();
        twoOfLikeOnes();
        Check.end("TriedEdgesTest");
    }

    private static void triedAsked() {
        for (int letters = 1; letters <= 7; letters++) {
            // the LETTERS are told the heaviest first, each to the next PLACE of the line, and all are IN TIME
            HeaviestFirst x = Check.town(Told.line(7) + Told.letters(letters, 7), letters);
            Check.sentence("Promise 14: i = NONE the WALK, -2 how many STONES, else the i-th LETTER of the ORDER");
            Check.due("shortest(-1)", x.shortest(-1), 10 * (letters - 1));
            Check.due("shortest(-2)", x.shortest(-2), 0);
            Check.sentence("Promise 15: i = NONE how many STONES, -2 the WALK, else the i-th LETTER");
            Check.due("inTime(-1)", x.inTime(-1), 0);
            Check.due("inTime(-2)", x.inTime(-2), 10 * (letters - 1));
            for (int i = 0; i < letters; i++) {
                Check.due("shortest(" + i + ")", x.shortest(i), i);
                Check.due("inTime(" + i + ")", x.inTime(i), i);
            }
            Check.sentence("Promises 14, 15: NONE: not so many (i below these, too)");
            for (int i : new int[] {letters, letters + 1, 7, 8, -3, -4, LEAST, MOST}) {
                Check.due("shortest(" + i + ") of " + letters, x.shortest(i), Check.NONE);
                Check.due("inTime(" + i + ") of " + letters, x.inTime(i), Check.NONE);
            }
        }
    }

    private static void triedNotNow() {
        HeaviestFirst byTurns = Check.town(Told.seven(), 7);
        byTurns.law(2);
        HeaviestFirst both = Check.town(Told.places(7), 0);
        both.law(2);
        HeaviestFirst lightest = Check.town(Told.places(7), 0);
        lightest.law(1);
        HeaviestFirst[] all = {byTurns, both, lightest, Check.town(Told.places(7), 0), new HeaviestFirst()};
        Check.sentence("Promises 14, 15: NOT: LAW 2, no LETTERS");
        for (HeaviestFirst x : all) {
            for (int i : new int[] {-1, -2, 0, 6, 7, -3, LEAST, MOST}) {
                Check.due("shortest(" + i + ")", x.shortest(i), Check.NOT);
                Check.due("inTime(" + i + ")", x.inTime(i), Check.NOT);
            }
        }
        byTurns.law(1);
        Check.holds("by LAW 1 it is told", byTurns.shortest(-1) >= 0);
        byTurns.law(0);
        Check.holds("by LAW 0 it is told", byTurns.shortest(-1) >= 0);
    }

    private static void nothingInTime() {
        Check.sentence("ALL IN TIME: .. NONE");
        HeaviestFirst x = Check.town(LINE + "letter 4 9 39 1;letter 1 5 99 1;", 2);
        for (int law = 0; law <= 1; law++) {
            x.law(law);
            for (int i : new int[] {-1, -2, -3, 0, 1, 2, LEAST, MOST}) {
                Check.due("inTime(" + i + ") by LAW " + law, x.inTime(i), Check.NONE);
            }
            Check.due("shortest(-1) by LAW " + law, x.shortest(-1), 40);
        }
    }

    /** Two LETTERS, the nearer one told first or second, so far apart in WEIGHT; 20 minutes or 30. */
    private static void nearerFirst(int law, boolean toldFirst, int near, int far, int stones) {
        String nearer = "letter 1 " + near + " 99 1;";
        String farther = "letter 2 " + far + " 99 1;";
        HeaviestFirst x = Check.town(LINE + (toldFirst ? nearer + farther : farther + nearer), 2);
        x.law(law);
        String what = "of " + near + ", " + far + " by LAW " + law;
        Check.due("the WALK " + what, x.shortest(-1), stones < 0 ? 30 : 20);
        Check.due("STONES " + what, x.shortest(-2), Math.max(0, stones));
        Check.due("the first " + what, x.shortest(0), (stones < 0) == toldFirst ? 1 : 0);
    }

    private static void nineStonesCanBe() {
        Check.sentence("it cannot be, if one would need more than 9");
        for (int far = 10; far <= 99; far += 89) {
            // by LAW 0 the nearer one is to be heavier, or as heavy if it is the lesser LETTER
            nearerFirst(0, true, far - 9, far, 9);
            nearerFirst(0, false, far - 8, far, 9);
            nearerFirst(0, false, far - 9, far, -1);
            nearerFirst(0, true, far, far, 0);
            nearerFirst(0, false, far, far, 1);
        }
        nearerFirst(0, true, 89, 99, -1);
        nearerFirst(0, true, 1, 11, -1);
        for (int near = 10; near <= 99; near += 89) {
            // by LAW 1 the farther one gets them
            nearerFirst(1, true, near, near - 9, 9);
            nearerFirst(1, false, near, near - 8, 9);
            nearerFirst(1, false, near, near - 9, -1);
            nearerFirst(1, true, near, near, 0);
            nearerFirst(1, false, near, near, 1);
        }
        nearerFirst(1, true, 99, 89, -1);
        nearerFirst(1, true, 11, 1, -1);
    }

    private static void nineStonesInSeveral() {
        Check.sentence("(by LAW 0 from the last LETTER on, by LAW 1 from the first one on, each as few as may be)");
        // seven of like WEIGHT told against the way: 0, 1, .. 6 STONES, for each is to be heavier than the one behind it
        StringBuilder text = new StringBuilder(Told.line(7));
        for (int l = 0; l < 7; l++) {
            text.append("letter ").append(6 - l).append(" 50 99 1;");
        }
        HeaviestFirst x = Check.town(text.toString(), 7);
        for (int law = 0; law <= 1; law++) {
            x.law(law);
            Check.due("the WALK by LAW " + law, x.shortest(-1), 60);
            Check.due("STONES by LAW " + law, x.shortest(-2), 1 + 2 + 3 + 4 + 5 + 6);
            for (int i = 0; i < 7; i++) {
                Check.due("order by LAW " + law, x.shortest(i), 6 - i);
            }
        }
        // two lots of 9, and one that would need 9 and 9
        x = Check.town(LINE + "letter 3 19 99 1;letter 2 11 99 1;letter 1 12 99 1;", 3);
        // 1 at 20 needs 9, and 2 at 21 needs 9
        Check.due("9 and 9: the WALK", x.shortest(-1), 30);
        Check.due("9 and 9: STONES", x.shortest(-2), 18);
        x = Check.town(LINE + "letter 3 19 99 1;letter 2 11 99 1;letter 1 11 99 1;", 3);
        Check.due("9 and 10: the WALK", x.shortest(-1), 10 + 20 + 10);
        Check.due("9 and 10: STONES", x.shortest(-2), 9);
    }

    private static void shortestIs(HeaviestFirst x, int walk, int stones, int... order) {
        Check.due("shortest(-1)", x.shortest(-1), walk);
        Check.due("shortest(-2)", x.shortest(-2), stones);
        for (int i = 0; i < order.length; i++) {
            Check.due("shortest(" + i + ")", x.shortest(i), order[i]);
        }
    }

    private static void inTimeIs(HeaviestFirst x, int stones, int walk, int... order) {
        Check.due("inTime(-1)", x.inTime(-1), stones);
        Check.due("inTime(-2)", x.inTime(-2), walk);
        for (int i = 0; i < order.length; i++) {
            Check.due("inTime(" + i + ")", x.inTime(i), order[i]);
        }
    }

    private static void shortestOfLikeOnes() {
        Check.sentence("SHORTEST: .. the least WALK, of like ones of the fewest STONES, then the first");
        // nearer on both sides of the office: the ways round are as long, one of them needs STONES
        HeaviestFirst x = Check.town("place 50 0;place 40 0;place 60 0;letter 1 5 99 1;letter 2 6 99 1;", 2);
        shortestIs(x, 30, 0, 1, 0);
        x.law(1);
        shortestIs(x, 30, 0, 0, 1);
        // a minute less by nine STONES goes ahead of none
        x = Check.town("place 50 0;place 41 0;place 60 0;letter 1 1 99 1;letter 2 10 99 1;", 2);
        shortestIs(x, 9 + 19, 9, 0, 1);
        // of like WALK and STONES the first
        x = Check.town("place 50 0;" + "letter 0 7 99 1;".repeat(7), 7);
        for (int law = 0; law <= 1; law++) {
            x.law(law);
            shortestIs(x, 0, 0, 0, 1, 2, 3, 4, 5, 6);
        }
        // 3 has 10 at most, so 2 (at 10 ahead of 0) cannot be behind it; 1, 3, 0, 2 and 3, 0, 2, 1 are 70 long
        // and need 3 and 9, 9 and 3: the first of them
        x = Check.town(LINE + "letter 4 9 20 1;letter 1 7 70 1;letter 3 5 70 1;letter 0 1 90 1;", 4);
        shortestIs(x, 70, 12, 1, 3, 0, 2);
    }

    private static void inTimeOfLikeOnes() {
        Check.sentence("ALL IN TIME: .. that of the fewest STONES, then of the least WALK, then the first");
        // a far shorter WALK by one STONE is left
        HeaviestFirst x = Check.town(LINE + "letter 1 5 99 1;letter 4 6 99 1;", 2);
        inTimeIs(x, 0, 40 + 30, 1, 0);
        shortestIs(x, 40, 1, 0, 1);
        // unless one is late by it
        x = Check.town(LINE + "letter 1 5 69 1;letter 4 6 99 1;", 2);
        inTimeIs(x, 1, 40, 0, 1);
        // one STONE in 3 brings about 1, 2, 3, 0, one in 1 brings about 3, 1, 2, 0, both of 40 minutes
        x = Check.town(LINE + "letter 0 8 40 1;letter 1 5 70 1;letter 2 6 50 1;letter 0 5 80 1;", 4);
        x.law(1);
        inTimeIs(x, 1, 40, 1, 2, 3, 0);
        x = Check.town("place 50 0;" + "letter 0 7 0 1;".repeat(7), 7);
        for (int law = 0; law <= 1; law++) {
            x.law(law);
            inTimeIs(x, 0, 0, 0, 1, 2, 3, 4, 5, 6);
        }
    }

    private static void dueToTheMinute() {
        Check.sentence("ALL IN TIME: of those by which all are IN TIME");
        for (int due = 38; due <= 42; due++) {
            // 1 is heavier and nearer, so that 0 comes at 40
            HeaviestFirst x = Check.town(LINE + "letter 4 5 " + due + " 1;letter 1 9 10 1;", 2);
            Check.due("STONES by DUE " + due, x.inTime(-1), due >= 40 ? 0 : Check.NONE);
            Check.due("the WALK by DUE " + due, x.inTime(-2), due >= 40 ? 40 : Check.NONE);
            Check.due("the first by DUE " + due, x.inTime(0), due >= 40 ? 1 : Check.NONE);
        }
    }

    private static void answerAsked() {
        for (int letters = 0; letters <= 7; letters++) {
            HeaviestFirst x = Check.town(Told.line(7) + Told.letters(letters, 7), letters);
            Check.sentence("Promise 16: UNKNOWN");
            for (int l : new int[] {letters, 7, -1, -2, -3, LEAST, MOST}) {
                Check.due("answer(" + l + ") of " + letters, x.answer(l), Check.UNKNOWN);
            }
            for (int l = 0; l < letters; l++) {
                Check.due("answer(" + l + ") of " + letters, x.answer(l), 0);
            }
        }
    }

    private static void answerOfNine() {
        Check.sentence("BEST ANSWER of a LETTER's sender: STONES in it, 0 to 9");
        for (int weight = 1; weight <= 20; weight++) {
            HeaviestFirst x = Check.town(LINE + "letter 1 " + weight + " 10 99;letter 4 15 99 1;stone 1;", 2);
            int needed = Math.max(0, 15 - weight);
            Check.due("the lesser one of " + weight + " against 15", x.answer(0), needed > 9 ? 0 : needed);
            x = Check.town(LINE + "letter 4 15 99 1;letter 1 " + weight + " 10 99;stone 1;", 2);
            needed = Math.max(0, 16 - weight);
            Check.due("the greater one of " + weight + " against 15", x.answer(1), needed > 9 ? 0 : needed);
            Check.due("STONES stay", x.told(6), 0);
        }
        Check.sentence("all others as they are");
        HeaviestFirst x = Check.town(LINE + "letter 1 6 10 99;letter 4 6 99 1;", 2);
        for (int others = 0; others <= 9; others++) {
            x.stones(1, others);
            x.stones(0, 9 - others);
            Check.due("against 6 and " + others, x.answer(0), others);
        }
    }

    private static void answerOfLikeOnes() {
        Check.sentence("by which its HAD is greatest, .. of like ones the fewest");
        for (int needed = 1; needed <= 9; needed++) {
            for (int cost = 0; cost <= 11; cost++) {
                // worth one more than the STONES cost, just as much, one less
                for (int more = -1; more <= 1; more++) {
                    int worth = cost * needed + more;
                    if (worth >= 0 && worth <= 99) {
                        HeaviestFirst x = Check.town(LINE + "letter 1 " + (10 - needed) + " 10 " + worth
                                + ";letter 4 10 99 1;stone " + cost + ";", 2);
                        Check.due(needed + " at " + cost + " worth " + worth, x.answer(0), more > 0 ? needed : 0);
                    }
                }
            }
        }
        HeaviestFirst x = Check.town(LINE + "letter 4 10 39 99;letter 1 9 99 99;stone 0;", 2);
        Check.due("late by any STONES, which cost nothing", x.answer(0), 0);
        Check.due("IN TIME by any STONES, which cost nothing", x.answer(1), 0);
        x.price(99);
        Check.due("IN TIME without any", x.answer(1), 0);
    }

    private static void restsAsked() {
        for (int letters = 1; letters <= 7; letters++) {
            HeaviestFirst x = Check.town(Told.line(7) + Told.letters(letters, 7), letters);
            int had = 0;
            for (int l = 0; l < letters; l++) {
                had += 50 + l;
                x.stones(l, 9);
            }
            Check.sentence("Promise 17: l = NONE how many rounds .., -2 HAD of all, -3 the WALK, else STONES of a LETTER");
            Check.due("rests(-1)", x.rests(-1), 1);
            Check.due("rests(-2)", x.rests(-2), had);
            Check.due("rests(-3)", x.rests(-3), 10 * (letters - 1));
            for (int l = 0; l < letters; l++) {
                Check.due("rests(" + l + ")", x.rests(l), 0);
            }
            Check.sentence("Promise 17: UNKNOWN");
            for (int l : new int[] {letters, letters + 1, 7, 8, -4, -5, LEAST, MOST}) {
                Check.due("rests(" + l + ") of " + letters, x.rests(l), Check.UNKNOWN);
            }
            Check.sentence("RESTS: .. from STONES as they are");
            Check.due("STONES stay", x.told(6), 9 * letters);
            for (int l = 0; l < letters; l++) {
                x.stones(l, 0);
            }
            Check.due("no round that changes anything", x.rests(-1), 0);
        }
    }

    private static void restsWithoutLetters() {
        Check.sentence("RESTS: .. a round changes nothing: without LETTERS");
        for (HeaviestFirst x : new HeaviestFirst[] {new HeaviestFirst(), Check.town(Told.places(7), 0)}) {
            Check.due("rests(-1)", x.rests(-1), 0);
            Check.due("rests(-2)", x.rests(-2), 0);
            Check.due("rests(-3)", x.rests(-3), 0);
            Check.due("rests(0)", x.rests(0), Check.UNKNOWN);
            Check.due("rests(-4)", x.rests(-4), Check.UNKNOWN);
            Check.due("best()", x.best(), 0);
        }
    }

    private static void restsNever() {
        HeaviestFirst x = Check.town("place 0 0;place 10 0;place 0 10;letter 1 5 10 50;letter 2 5 10 50;", 2);
        Check.sentence("Promise 17: NONE: never");
        for (int l = -3; l < 2; l++) {
            Check.due("rests(" + l + ")", x.rests(l), Check.NONE);
        }
        Check.sentence("Promise 17: UNKNOWN, where there is no rest, too");
        for (int l : new int[] {2, -4, LEAST, MOST}) {
            Check.due("rests(" + l + ")", x.rests(l), Check.UNKNOWN);
        }
    }

    /** Long ways to a rest, found by search: 29 rounds that change something and one that does not are 30. */
    private static void restsByTheThirtieth() {
        String heaviest = "place 39 65;place 77 55;place 1 47;place 47 12;place 60 58;place 58 82;place 83 69;"
                + "letter 3 2 204 43;letter 2 2 370 59;letter 2 3 244 72;letter 4 11 464 69;letter 2 3 642 82;"
                + "letter 0 3 288 89;letter 6 3 223 57;stone 1;";
        Check.due("29 by LAW 0", withStones(heaviest, 0, 9, 9, 4, 8, 2, 9, 9).rests(-1), 29);
        String turns = "place 74 85;place 46 9;place 8 62;place 11 36;place 3 84;place 5 8;place 68 66;"
                + "letter 3 10 187 38;letter 1 9 317 98;letter 1 5 138 22;letter 6 11 349 80;letter 5 12 162 81;"
                + "letter 4 7 450 29;letter 5 5 517 27;stone 2;";
        Check.due("29 by LAW 2", withStones(turns, 2, 4, 7, 2, 3, 8, 8, 3).rests(-1), 29);
        String longer = "place 95 60;place 10 83;place 61 75;place 42 98;place 1 33;place 67 8;place 93 14;"
                + "letter 3 5 515 12;letter 0 7 124 89;letter 2 4 504 92;letter 4 5 319 29;letter 6 5 364 46;"
                + "letter 3 6 164 51;letter 1 6 482 22;stone 1;";
        HeaviestFirst x = withStones(longer, 0, 4, 9, 9, 7, 8, 7, 7);
        for (int l = -3; l < 7; l++) {
            Check.due("30 that change something: rests(" + l + ")", x.rests(l), Check.NONE);
        }
        // one round played by hand leaves 29
        for (int l = 0; l < 7; l++) {
            x.stones(l, x.answer(l));
        }
        Check.due("a round later", x.rests(-1), 29);
        String longest = "place 18 96;place 84 32;place 71 91;place 20 34;place 51 0;place 83 74;place 7 60;"
                + "letter 5 7 490 73;letter 0 8 32 14;letter 6 8 91 73;letter 4 8 287 46;letter 3 8 136 64;"
                + "letter 2 8 338 73;letter 6 8 379 84;stone 5;";
        Check.due("31 that change something", withStones(longest, 0, 1, 2, 4, 7, 2, 8, 6).rests(-1), Check.NONE);
    }

    private static HeaviestFirst withStones(String text, int law, int... stones) {
        HeaviestFirst x = Check.town(text, stones.length);
        x.law(law);
        for (int l = 0; l < stones.length; l++) {
            x.stones(l, stones[l]);
        }
        return x;
    }

    private static void bestFromNoughtToTwenty() {
        // by 3 STONES 0 is first and in time, but the WALK is 40 + 50 then, not 10 + 50: it takes none once 3 C are
        // what it is worth; until then all prices are as good as 0
        String text = "place 50 0;place 90 0;place 40 0;letter 1 5 40 %d;letter 2 8 99 5;stone 77;";
        for (int worth = 0; worth <= 99; worth++) {
            Check.sentence("BEST PRICE: of C from 0 to 20 that by which the WALK at RESTS is least .. of like ones the least");
            HeaviestFirst x = Check.town(String.format(text, worth), 2);
            Check.due("worth " + worth, x.best(), worth <= 60 ? (worth + 2) / 3 : 0);
            Check.due("C stays", x.told(2), 77);
        }
    }

    private static void bestPassesOver() {
        // both want to be first: no rest until one STONE costs what it is worth
        String text = "place 50 0;place 10 0;place 90 0;letter 1 4 40 %d;letter 2 4 40 %d;stone %d;";
        for (int worth = 1; worth <= 40; worth++) {
            for (int cost : new int[] {0, 20, 21, 99}) {
                Check.sentence("(prices without RESTS are passed over) .. NONE");
                HeaviestFirst x = Check.town(String.format(text, worth, worth, cost), 2);
                Check.due("worth " + worth, x.best(), worth <= 20 ? worth : Check.NONE);
                Check.sentence("RESTS: .. NONE: never");
                Check.due("rests(-1) at " + cost, x.rests(-1), cost >= worth ? 0 : Check.NONE);
            }
        }
    }

    private static void agreedAsked() {
        for (int letters = 0; letters <= 7; letters++) {
            HeaviestFirst x = Check.town(Told.line(7) + Told.letters(letters, 7), letters);
            int all = (1 << letters) - 1;
            Check.sentence("Promise 19: UNKNOWN (an empty SET, too)");
            for (int set : new int[] {0, all + 1, all + 2, 128, 256, 1 << 30, -1, -2, LEAST, LEAST + 1, MOST}) {
                for (int what : new int[] {0, 1}) {
                    Check.due("agreed(" + set + ", " + what + ")", x.agreed(set, what), Check.UNKNOWN);
                }
                Check.due("agreed(" + set + ", 2)", x.agreed(set, 2), Check.UNKNOWN);
            }
            for (int set = 1; set <= all; set += Math.max(1, all / 9)) {
                Check.sentence("Promise 19: what = 0 by how much the WALK is less, 1 the cost .. OUTSIDE");
                Check.holds("agreed(" + set + ", 0) is told", x.agreed(set, 0) > Check.UNKNOWN);
                Check.holds("agreed(" + set + ", 1) is told", x.agreed(set, 1) >= 0);
                for (int what : OUT_OF_TWO) {
                    Check.due("agreed(" + set + ", " + what + ")", x.agreed(set, what), Check.OUTSIDE);
                }
            }
            Check.due("STONES stay", x.told(6), 0);
        }
    }

    private static void agreedOfNine() {
        HeaviestFirst x = Check.town(LINE + "letter 3 20 99 1;letter 1 11 99 1;letter 2 10 99 1;stone 1;", 3);
        Check.sentence("Promise 19: NOT: one would need more than 9");
        Check.due("9 in 1", x.agreed(3, 1), 9);
        Check.due("1 in 2", x.agreed(6, 1), 1);
        for (int set : new int[] {5, 7}) {
            Check.due("10 in 2: agreed(" + set + ", 0)", x.agreed(set, 0), Check.NOT);
            Check.due("10 in 2: agreed(" + set + ", 1)", x.agreed(set, 1), Check.NOT);
            Check.sentence("Promise 19: OUTSIDE ahead of NOT");
            Check.due("agreed(" + set + ", 2)", x.agreed(set, 2), Check.OUTSIDE);
        }
        Check.sentence("one would need more than 9: in all, not more than now");
        x.stones(2, 9);
        Check.due("10 in 2, 9 of them now", x.agreed(5, 1), Check.NOT);
        x.stones(0, 1);
        Check.due("10 in 1, for 0 is at 21", x.agreed(3, 1), Check.NOT);
        x.stones(0, 0);
        Check.sentence("as HEAVY as the heaviest of them is now");
        Check.due("2 is at 19, 1 needs 8", x.agreed(6, 1), 8);
        x.stones(2, 0);
        x.stones(1, 9);
        Check.due("1 is at 20: 10 in 2", x.agreed(6, 1), Check.NOT);
        x = Check.town("place 0 0;letter 0 99 0 0;letter 0 90 0 0;stone 99;", 2);
        Check.due("9 at 99", x.agreed(3, 1), 9 * 99);
        x.stones(0, 1);
        Check.due("10", x.agreed(3, 1), Check.NOT);
    }

    private static void agreedByHowMuch() {
        HeaviestFirst x = Check.town(LINE + "letter 1 6 99 1;letter 4 9 99 1;stone 5;", 2);
        Check.sentence("by how much the WALK is less (below 0: longer)");
        // 1, 0: 40 + 30; of like HEAVY 0, 1: 40
        Check.due("less", x.agreed(3, 0), 30);
        Check.due("by a cost", x.agreed(3, 1), 15);
        x = Check.town(LINE + "letter 4 6 99 1;letter 1 9 99 1;stone 0;", 2);
        Check.due("longer", x.agreed(3, 0), -30);
        Check.due("by STONES that cost nothing", x.agreed(3, 1), 0);
        Check.sentence("AGREED: a SET of one LETTER");
        for (int set = 1; set <= 2; set++) {
            Check.due("as heavy as itself", x.agreed(set, 0), 0);
            Check.due("for nothing", x.agreed(set, 1), 0);
        }
        Check.sentence("what these STONES cost more than those that they have (C for each; none has fewer then)");
        x.price(99);
        for (int n = 0; n <= 9; n++) {
            x.stones(0, n);
            Check.due("3 in 0, " + n + " of them now", x.agreed(3, 1), 99 * Math.abs(3 - n));
        }
    }

    private static void twoAsked() {
        Check.sentence("Promise 20: what = 0 k, 1 how long. OUTSIDE.");
        for (int letters = 0; letters <= 7; letters++) {
            HeaviestFirst x = Check.town(Told.line(7) + Told.letters(letters, 7), letters);
            // all on one way: who goes the whole of it is as long as any other two
            Check.due("k of " + letters, x.two(0), 0);
            Check.due("how long of " + letters, x.two(1), Math.max(0, 10 * (letters - 1)));
            for (int what : OUT_OF_TWO) {
                Check.due("two(" + what + ")", x.two(what), Check.OUTSIDE);
            }
        }
        HeaviestFirst x = new HeaviestFirst();
        Check.due("k of nothing", x.two(0), 0);
        Check.due("how long of nothing", x.two(1), 0);
        Check.due("two(2) of nothing", x.two(2), Check.OUTSIDE);
    }

    private static void twoOfLikeOnes() {
        Check.sentence("k by which the longer of both WALKS is least; of like ones the least k; how long");
        // LETTERS there and back on both sides of the office; the last one alone on the other side
        String sides = "place 50 0;place 40 0;place 60 0;";
        for (int right = 1; right <= 6; right++) {
            String text = sides + "letter 1 9 99 1;".repeat(right) + "letter 2 8 99 1;";
            HeaviestFirst x = Check.town(text, right + 1);
            Check.due("k with " + right + " on one side", x.two(0), right);
            Check.due("how long", x.two(1), 10);
        }
        HeaviestFirst x = Check.town(sides + "letter 1 9 99 1;letter 2 8 99 1;letter 2 7 99 1;", 3);
        Check.due("k = 1 of 1, 2", x.two(0), 1);
        Check.due("how long", x.two(1), 10);
        // the office's own LETTER goes to either: k = 1 and k = 2 are as good
        x = Check.town(sides + "letter 1 9 99 1;letter 0 8 99 1;letter 2 7 99 1;", 3);
        Check.due("1 with 2 by the other one is 10, too", x.two(0), 1);
        Check.due("how long", x.two(1), 10);
        Check.sentence("one takes the k first of the ORDER, the other one the rest, both from the office");
        x = Check.town("place 0 0;place 99 99;" + "letter 1 9 99 1;letter 0 9 99 1;".repeat(3) + "letter 1 9 9 1;", 7);
        // there and back 7 times is 1386; 3 and 4 LETTERS leave 594 and 3 times 198 (the office first is no way)
        Check.due("k of seven", x.two(0), 3);
        Check.due("how long of seven", x.two(1), 594);
    }
}
