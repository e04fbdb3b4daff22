/** Promises 11 to 16 at their edges. */
public final class WordEdgesTest {
    private static final String PLAIN = "letters a b c A; pair A:a A:0; lexicon Root { a -> end; bA -> end; } ";

    public static void main(String[] args) {
        wordSizes();
        wordsRefused();
        waysOfFour();
        waysOfOne();
        deepSidesOfSixteen();
        emptyDeepSides();
        entriesInOrder();
        twoThousand();
        manyWord();
        goodCandidates();
        theEighthRule();
        structuresOfForty();
        wayNumbers();
        candidateNumbers();
        sixteenPairs();
        candidatesOfTheLatest();
        nearSizes();
        nearRefused();
        nearAtTheRims();
        nearEachOnce();
        nearByALaterCandidate();
        nearOfMany();
        nearOfFourteenLetters();
        nearbyBytes();
        nearbyOfTheLatest();
        House.close("WordEdgesTest");
    }

    private static void wordSizes() {
        House.asks("A WORD is a row of 1 to 16 small LETTERS.");
        House house = House.of("letters a; lexicon Root { a -> end; aa -> Root; aaaaaa -> Root; aaaa -> end; }");
        int[] due = new int[21];
        // ways of up to 4 ENTRIES: 2 or 6 letters each but the last, which has 1 or 4
        for (int last = 1; last <= 4; last += 3) {
            for (int shape = 1; shape < 16; shape++) {
                int size = last;
                for (int s = shape; s > 1; s /= 2) {
                    size += s % 2 == 0 ? 2 : 6;
                }
                if (size <= 16) {
                    due[size]++;
                }
            }
        }
        for (int n = 0; n <= 20; n++) {
            boolean isWord = n >= 1 && n <= 16;
            House.due("analyse() of " + n + " letters", house.analyse("a".repeat(n)), isWord ? due[n] : -1);
            House.due("it is empty then", house.it.count(9), 0);
        }
    }

    private static void wordsRefused() {
        House.asks("11: NONE: it is no WORD (also with a small letter that is no LETTER).");
        House house = House.of(PLAIN);
        House.due("analyse()", house.analyse("ba"), 1);
        String[] wrong = {"", "A", "aA", "Aa", "d", "ad", "da", "z", "B", "0", "a0", "a ", " a", "a;", "a\0", "\0", "\u00e1", "a\u00ff",
            "a".repeat(17), "a".repeat(40)};
        for (String word : wrong) {
            House.due("analyse() of " + word, house.analyse(word), -1);
            House.due("it is empty then", house.it.count(9), 0);
            House.due("the latest stays", house.it.candidates(), 1);
            House.due("its way", house.it.way(0, 0), 1);
            House.due("its first pair", house.it.candidate(0, 5), 1);
        }
        House.due("a word of no ENTRY", house.analyse("c"), 0);
        House.due("candidates()", house.it.candidates(), 0);
    }

    private static void waysOfFour() {
        House.asks("A WAY is a row of 1 to 4 of them");
        House house = House.of("letters a b; lexicon Root { a -> Root; b -> end; }");
        for (int n = 0; n <= 6; n++) {
            House.due(n + " ENTRIES and one", house.analyse("a".repeat(n) + "b"), n <= 3 ? 1 : 0);
            House.due("candidates()", house.it.candidates(), n <= 3 ? 1 : 0);
            for (int i = 0; n <= 3 && i < 4; i++) {
                House.due("way(0, " + i + ")", house.it.way(0, i), i < n ? 0 : i == n ? 1 : -1);
                House.due("candidate(0, " + (i + 1) + ")", house.it.candidate(0, i + 1), i < n ? 0 : i == n ? 1 : -1);
            }
        }
    }

    private static void waysOfOne() {
        House.asks("the first one of lexicon Root, each other one of the lexicon that the GOAL of the one ahead of it is, "
                + "the last one's GOAL being end");
        House house = House.of("letters a b; lexicon Other { a -> end; b -> Other; } lexicon Root { a -> Other; b -> end; }");
        House.due("b alone", house.analyse("b"), 1);
        House.due("its ENTRY", house.it.way(0, 0), 3);
        House.due("a alone does not end", house.analyse("a"), 0);
        House.due("aa", house.analyse("aa"), 1);
        House.due("bb", house.analyse("bb"), 0);
        House.due("ab", house.analyse("ab"), 0);
        House.due("aba", house.analyse("aba"), 1);
        House.due("its ENTRIES", house.it.way(0, 0) * 100 + house.it.way(0, 1) * 10 + house.it.way(0, 2), 210);
    }

    private static void deepSidesOfSixteen() {
        House.asks("its DEEP side (0 is no letter) has at most 16 LETTERS");
        // E is written a or nothing: the word can be short where the deep side is long
        for (int n = 0; n <= 6; n++) {
            String last = n == 0 ? "0" : "E".repeat(n);
            House house = House.of("letters a b E; pair E:0; lexicon Root { bEEEEE -> B; } lexicon B { EEEEEE -> C; } lexicon C { "
                    + last + " -> end; }");
            boolean fits = 12 + n <= 16;
            House.due("a deep side of " + (12 + n), house.analyse("b"), fits ? 1 : 0);
            House.due("its candidates", house.it.candidates(), fits ? 1 : 0);
            House.due("its pair 15", house.it.candidate(0, 20), n == 4 ? 2 : -1);
            House.due("its last pair", house.it.candidate(0, 4 + 12 + n), fits ? 2 : -1);
            House.due("none behind", house.it.candidate(0, 5 + 12 + n), -1);
        }
    }

    private static void emptyDeepSides() {
        House.asks("its DEEP side (0 is no letter)");
        House house = House.of("letters a; lexicon Root { 0 -> end; 0 -> A; } lexicon A { a -> B; 0 -> B; } lexicon B { 0 -> end; a -> end; }");
        House.due("a", house.analyse("a"), 2);
        House.due("way(0, 1)", house.it.way(0, 1), 2);
        House.due("way(0, 2)", house.it.way(0, 2), 4);
        House.due("way(1, 1)", house.it.way(1, 1), 3);
        House.due("way(1, 2)", house.it.way(1, 2), 5);
        House.due("one pair", house.it.candidate(1, 5), 0);
        House.due("no second one", house.it.candidate(1, 6), -1);
        House.due("aa", house.analyse("aa"), 1);
    }

    private static void entriesInOrder() {
        House.asks("WAYS are ordered by the number of the first ENTRY that differs; candidates .. by WAYS, then by the number "
                + "of the first pair that differs");
        House house = House.of("letters a b; pair a:b b:0 a:0; lexicon Z { b -> end; a -> end; } lexicon Root { a -> Z; aa -> end; 0 -> Z; }");
        House.due("analyse() of b", house.analyse("b"), 5);
        // the pairs: a:a 0, b:b 1, a:b 2, b:0 3, a:0 4
        int[][] due = {{2, 0, 2, 3}, {2, 0, 4, 1}, {2, 1, 2, 4}, {2, 1, 4, 2}, {3, -1, 2, 4}, {3, -1, 4, 2}, {4, 0, 1, -1}, {4, 1, 2, -1}};
        House.due("candidates()", house.it.candidates(), due.length);
        for (int c = 0; c < due.length; c++) {
            House.due("ENTRY 0 of " + c, house.it.candidate(c, 1), due[c][0]);
            House.due("ENTRY 1 of " + c, house.it.candidate(c, 2), due[c][1]);
            House.due("pair 0 of " + c, house.it.candidate(c, 5), due[c][2]);
            House.due("pair 1 of " + c, house.it.candidate(c, 6), due[c][3]);
        }
    }

    /** Of the word a: 1,999 candidates, and one more for each of these ENTRIES. */
    private static String manyWays(int more) {
        return "letters a b; lexicon Root { " + "0 -> B; ".repeat(4) + "0 -> BB; b -> end; " + "a -> end; ".repeat(more) + "} lexicon B { "
                + "0 -> C; ".repeat(8) + "} lexicon BB { " + "0 -> C; ".repeat(7) + "0 -> CC; } lexicon C { " + "0 -> D; ".repeat(7)
                + "a -> end; } lexicon CC { " + "0 -> D; ".repeat(7) + "} lexicon D { " + "a -> end; ".repeat(7) + "}";
    }

    private static void twoThousand() {
        House.asks("If there are more than 2,000 the WORD is MANY.");
        House below = House.of(manyWays(0));
        House.due("analyse() of 1,999", below.analyse("a"), 1999);
        House.due("candidates()", below.it.candidates(), 1999);
        House.due("candidate(1998, 0)", below.it.candidate(1998, 0), 32);
        House.due("candidate(1999, 0)", below.it.candidate(1999, 0), -1);
        House rim = House.of(manyWays(1));
        House.due("analyse() of 2,000", rim.analyse("a"), 2000);
        House.due("candidates()", rim.it.candidates(), 2000);
        House.due("candidate(1999, 0)", rim.it.candidate(1999, 0), 32);
        House.due("candidate(1999, 1)", rim.it.candidate(1999, 1), 6);
        House.due("candidate(2000, 0)", rim.it.candidate(2000, 0), -1);
        House.due("way(1999, 0)", rim.it.way(1999, 0), 6);
        House.due("way(2000, 0)", rim.it.way(2000, 0), -1);
        House.due("write(1, 1999)", rim.written(1, 1999), "{}");
        House.due("write(1, 2000)", rim.written(1, 2000), "NONE");
        House above = House.of(manyWays(2));
        House.due("analyse() of 2,001", above.analyse("a"), -2);
        House.due("candidates()", above.it.candidates(), -2);
    }

    private static void manyWord() {
        House.asks("11: MANY; 12: NONE if there is none such; 13: NONE if there is none such (of MANY ones, too)");
        House house = House.of(manyWays(2));
        House.due("analyse()", house.analyse("b"), 1);
        House.due("write(1, 0)", house.written(1, 0), "{}");
        House.due("analyse()", house.analyse("a"), -2);
        for (int k : new int[] {-1, 0, 1, 1999, 2000, 2001}) {
            House.due("way(" + k + ", 0)", house.it.way(k, 0), -1);
            House.due("candidate(" + k + ", 0)", house.it.candidate(k, 0), -1);
            House.due("candidate(" + k + ", 1)", house.it.candidate(k, 1), -1);
            House.due("candidate(" + k + ", 5)", house.it.candidate(k, 5), -1);
            House.due("write(1, " + k + ")", house.it.write(1, k), -1);
        }
        House.due("what was written stays", house.it.octet(0), '{');
        House.due("a refused one", house.analyse("q"), -1);
        House.due("the latest is MANY still", house.it.candidates(), -2);
        House.due("analyse()", house.analyse("b"), 1);
        House.due("candidates()", house.it.candidates(), 1);
        House.due("way(0, 0)", house.it.way(0, 0), 5);
    }

    private static void goodCandidates() {
        House.asks("Its ANALYSES are those WAYS that have a GOOD candidate");
        House house = House.of("letters a A; pair A:a A:0; rule r A:a => # _; rule q A:0 => _ #; rule p A:0 /<= # A:a _;"
                + "lexicon Root { AA -> end; aA -> end; Aa -> end; AAA -> end; }");
        House.due("analyse() of a", house.analyse("a"), 1);
        House.due("candidates()", house.it.candidates(), 7);
        int[] broken = {2, 0, 32, 1, 1, 0, 0};
        for (int c = 0; c < broken.length; c++) {
            House.due("candidate(" + c + ", 0)", house.it.candidate(c, 0), broken[c]);
        }
        House.due("way(0, 0)", house.it.way(0, 0), 1);
    }

    private static void theEighthRule() {
        House.asks("13: what 0: the first rule, by numbers, that does not hold of it, 32 if all hold");
        for (int first = 0; first <= 8; first++) {
            StringBuilder s = new StringBuilder("letters a; lexicon Root { a -> end; } ");
            for (int r = 0; r < 8; r++) {
                s.append("rule r").append(r).append(r < first ? " a:a => _;" : " a:a /<= _;");
            }
            House house = House.of(s.toString());
            House.due("analyse()", house.analyse("a"), first == 8 ? 1 : 0);
            House.due("candidate(0, 0)", house.it.candidate(0, 0), first == 8 ? 32 : first);
        }
    }

    /** A lexicon's ENTRY with so many features of its own. */
    private static String features(String letter, int n) {
        StringBuilder s = new StringBuilder("{");
        for (int i = 0; i < n; i++) {
            s.append(letter).append(i).append(" p ");
        }
        return s + "}";
    }

    private static void structuresOfForty() {
        House.asks("Structures (also several: all become one) can be unified, if it does not fail, and the SIZE of what comes at "
                + "last is at most 40.");
        for (int n = 18; n <= 20; n++) {
            House house = House.of("letters a b; lexicon Root { a -> B " + features("f", 20) + "; } lexicon B { a -> C " + features("g", n)
                    + "; b -> C; } lexicon C { a -> end {h p}; b -> end {f0 p}; }");
            House.due("SIZE " + (21 + n), house.analyse("aaa"), 21 + n <= 40 ? 1 : 0);
            House.due("its candidate is GOOD", house.it.candidate(0, 0), 32);
            House.due("SIZE " + (20 + n), house.analyse("aab"), 1);
            House.due("SIZE 21", house.analyse("aba"), 1);
        }
        // 42 features on the way, 40 at last: the two that come to one node are counted once
        String shared = "letters a; lexicon Root { a -> B {x {u p} y {u p} " + features("f", 14).substring(1) + "; } lexicon B { a -> C "
                + features("g", 20) + "; } lexicon C { a -> end {x #1 y #1 h p i p MORE}; }";
        House.due("39 and a shared node", House.of(shared.replace("MORE", "")).analyse("aaa"), 1);
        House.due("40", House.of(shared.replace("MORE", "j p")).analyse("aaa"), 1);
        House.due("41", House.of(shared.replace("MORE", "j p k p")).analyse("aaa"), 0);
    }

    private static void wayNumbers() {
        House.asks("12: ENTRY i (0 to 3) of ANALYSIS k of the latest analyse() that was not NONE; NONE if there is none such.");
        House house = House.of("letters a; lexicon Root { a -> B; a -> end; } lexicon B { 0 -> B; 0 -> end; }");
        House.due("analyse()", house.analyse("a"), 4);
        int[][] due = {{0, 2, 2, 3}, {0, 2, 3, -1}, {0, 3, -1, -1}, {1, -1, -1, -1}};
        for (int k = 0; k < 4; k++) {
            for (int i = 0; i < 4; i++) {
                House.due("way(" + k + ", " + i + ")", house.it.way(k, i), due[k][i]);
            }
            for (int i : new int[] {-1, 4, 5, 32, Integer.MIN_VALUE, Integer.MAX_VALUE}) {
                House.due("way(" + k + ", " + i + ")", house.it.way(k, i), -1);
            }
        }
        for (int k : new int[] {-1, 4, 5, Integer.MIN_VALUE, Integer.MAX_VALUE}) {
            House.due("way(" + k + ", 0)", house.it.way(k, 0), -1);
        }
        House.due("analyse() of aa", house.analyse("aa"), 0);
        House.due("way(0, 0) of none", house.it.way(0, 0), -1);
    }

    private static void candidateNumbers() {
        House.asks("13: what 0: the first rule, by numbers, that does not hold of it, 32 if all hold; 1 .. 4: its ENTRIES; 5 .. 20: "
                + "its pairs. NONE if there is none such");
        House house = House.of("letters a b; rule p b:b /<= _ a; rule r a:a /<= b _; rule q a:a /<= _ #;"
                + "lexicon Root { aaaa -> Root; b -> end; bbaa -> end; }");
        House.due("analyse()", house.analyse("aaaaaaaaaaaabbaa"), 0);
        House.due("candidates()", house.it.candidates(), 1);
        House.due("what 0", house.it.candidate(0, 0), 0);
        int[] entries = {0, 0, 0, 2};
        for (int i = 0; i < 4; i++) {
            House.due("what " + (1 + i), house.it.candidate(0, 1 + i), entries[i]);
        }
        for (int i = 0; i < 16; i++) {
            House.due("what " + (5 + i), house.it.candidate(0, 5 + i), i == 12 || i == 13 ? 1 : 0);
        }
        for (int what : new int[] {-1, 21, 22, 32, 40, Integer.MIN_VALUE, Integer.MAX_VALUE}) {
            House.due("what " + what, house.it.candidate(0, what), -1);
        }
        for (int c : new int[] {-1, 1, 2, 2000, Integer.MIN_VALUE, Integer.MAX_VALUE}) {
            House.due("candidate(" + c + ", 0)", house.it.candidate(c, 0), -1);
            House.due("candidate(" + c + ", 5)", house.it.candidate(c, 5), -1);
        }
        House.due("analyse() of aaaab", house.analyse("aaaab"), 1);
        House.due("what 0", house.it.candidate(0, 0), 32);
        House.due("what 2", house.it.candidate(0, 2), 1);
        House.due("what 3", house.it.candidate(0, 3), -1);
        House.due("what 9", house.it.candidate(0, 9), 1);
        House.due("what 10", house.it.candidate(0, 10), -1);
    }

    private static void sixteenPairs() {
        House.asks("13: 5 .. 20: its pairs.");
        House house = House.of("letters n m l k j i h g f e d c b a; pair n:0; lexicon Root { abcdef -> B; fedcba -> B; } lexicon B { ghijkl -> C; } "
                + "lexicon C { mnab -> end; mna -> end; ba -> end; }");
        String deep = "abcdefghijklmnab";
        House.due("analyse()", house.analyse(deep), 1);
        for (int i = 0; i < 16; i++) {
            House.due("pair " + i, house.it.candidate(0, 5 + i), 13 - (deep.charAt(i) - 'a'));
        }
        House.due("none behind", house.it.candidate(0, 21), -1);
        deep = "fedcbaghijklba";
        House.due("analyse()", house.analyse(deep), 1);
        for (int i = 0; i < 16; i++) {
            House.due("pair " + i, house.it.candidate(0, 5 + i), i < 14 ? 13 - (deep.charAt(i) - 'a') : -1);
        }
        House.due("a pair n:0", house.analyse("abcdefghijklmab"), 1);
        House.due("pair 13", house.it.candidate(0, 18), 14);
        House.due("pair 15", house.it.candidate(0, 20), 12);
    }

    private static void candidatesOfTheLatest() {
        House.asks("14: How many candidates it has; MANY; 0 before the first one.");
        String text = PLAIN;
        House house = House.of(text);
        House.due("before the first one", house.it.candidates(), 0);
        House.due("a refused one", house.analyse("q"), -1);
        House.due("still 0", house.it.candidates(), 0);
        House.due("analyse()", house.analyse("b"), 1);
        House.due("candidates()", house.it.candidates(), 1);
        House.due("near()", house.near("a"), 2);
        House.due("near() changes nothing", house.it.candidates(), 1);
        House.due("way(0, 0)", house.it.way(0, 0), 1);
        house.sentence("a", "a");
        House.due("word() changes nothing", house.it.candidates(), 1);
        House.due("a refused text", house.read("letters"), 1 + 16 * 7);
        House.due("that changes nothing", house.it.candidates(), 1);
        House.due("a text", house.read(text), 0);
        House.due("0 then", house.it.candidates(), 0);
        House.due("candidate(0, 0)", house.it.candidate(0, 0), -1);
    }

    private static void nearSizes() {
        House.asks("15: The tape tells a WORD of at most 8 LETTERS; it is empty then");
        House house = House.of("letters a b; lexicon Root { a -> Root; aaaaaa -> Root; a -> end; aa -> end; }");
        for (int n = 0; n <= 20; n++) {
            // n - 1, and n + 1 up to 8, letters a, as far as there is a way
            boolean less = n > 1 && n - 1 <= 8;
            boolean more = n + 1 <= 8;
            int due = n < 1 || n > 8 ? -1 : (less && hasWay(n - 1) ? 1 : 0) + (more && hasWay(n + 1) ? 1 : 0);
            House.due("near() of " + n + " letters", house.near("a".repeat(n)), due);
            House.due("it is empty then", house.it.count(9), 0);
        }
    }

    /** Up to three ENTRIES of 1 or 6 letters, then 1 or 2. */
    private static boolean hasWay(int size) {
        for (int last = 1; last <= 2; last++) {
            for (int ones = 0; ones <= 3; ones++) {
                for (int sixes = 0; ones + sixes <= 3; sixes++) {
                    if (last + ones + 6 * sixes == size) {
                        return true;
                    }
                }
            }
        }
        return false;
    }

    private static void nearRefused() {
        House.asks("15: NONE: it is none such.");
        House house = House.of(PLAIN);
        House.due("near()", house.near("ba"), 2);
        String[] wrong = {"", "A", "bA", "d", "ad", "0", "a ", "a\0", "\u00e1", "a".repeat(9), "a".repeat(16), "a".repeat(17)};
        for (String word : wrong) {
            House.due("near() of " + word, house.near(word), -1);
            House.due("it is empty then", house.it.count(9), 0);
            House.due("the latest stays", house.nearby(0), "a");
            House.due("the latest stays", house.nearby(1), "b");
            House.due("and has no third", house.it.nearby(2, 0), -1);
        }
    }

    private static void nearAtTheRims() {
        House.asks("15: how many other WORDS of at most 8 come of it by one LETTER that is taken out, put in, or changed for another one");
        String all = "letters a b A; pair A:a A:b A:0; lexicon Root { AAAAAA -> B; AAAAAA -> end; } lexicon B { AAA -> end; }";
        House house = House.of(all);
        // of one letter: none by taking out, one changed, and aa ab ba bb less what is put in twice: aa, ab, ba
        House.due("near() of a", house.near("a"), 4);
        House.due("first", house.nearby(0), "aa");
        House.due("second", house.nearby(1), "ab");
        House.due("third", house.nearby(2), "b");
        House.due("fourth", house.nearby(3), "ba");
        House.due("the same letter is no change", house.it.nearby(4, 0), -1);
        // of 8 letters: 1 or more taken out, 8 changed, none put in
        House.due("near() of 8 letters a", house.near("aaaaaaaa"), 9);
        House.due("the first", house.nearby(0), "aaaaaaa");
        House.due("the second", house.nearby(1), "aaaaaaab");
        House.due("the last", house.nearby(8), "baaaaaaa");
        House.due("near() of abababab", house.near("abababab"), 16);
        // of 7 letters: 7 changed, 1 taken out, 8 put in and one more: aaaaaaaa
        House.due("near() of 7 letters a", house.near("aaaaaaa"), 17);
        House.due("the second", house.nearby(1), "aaaaaaaa");
        House.due("the word itself is none", house.nearby(0), "aaaaaa");
    }

    private static void nearEachOnce() {
        House.asks("15: each once, and have an ANALYSIS or are MANY");
        House house = House.of("letters a b; lexicon Root { ab -> end {f p}; ab -> end; aab -> end; bb -> B {f p}; } lexicon B { 0 -> end {f q}; }");
        House.due("near() of aab", house.near("aab"), 1);
        House.due("once", house.nearby(0), "ab");
        House.due("near() of abb, bb can't be unified", house.near("abb"), 2);
        House.due("the first", house.nearby(0), "aab");
        House.due("the second", house.nearby(1), "ab");
        House.due("near() of ab, not itself", house.near("ab"), 1);
        House.due("the first", house.nearby(0), "aab");
        House.due("near() of bbbb", house.near("bbbb"), 0);
        House.due("none", house.it.nearby(0, 0), -1);
    }

    private static void nearByALaterCandidate() {
        House.asks("15: .. and have an ANALYSIS");
        House house = House.of("letters a b A; pair A:a A:0; rule r A:a /<= _ a, _ A:0; lexicon Root { Aa -> end; AA -> end; aA -> B {f p}; } "
                + "lexicon B { 0 -> end {f q}; 0 -> end {f p}; }");
        // of a: A:a A:0 is not GOOD, A:0 A:a is, A:0 a is
        House.due("near() of b", house.near("b"), 1);
        House.due("the first", house.nearby(0), "a");
        House.due("near() of aaa", house.near("aaa"), 1);
        House.due("the first", house.nearby(0), "aa");
        House bad = House.of("letters a b A; pair A:a; rule r A:a /<= _; lexicon Root { A -> end; bA -> end; }");
        House.due("none is GOOD", bad.near("b"), 0);
    }

    private static void nearOfMany() {
        House.asks("15: .. or are MANY");
        House house = House.of(manyWays(2));
        House.due("near() of aa", house.near("aa"), 1);
        House.due("it is MANY", house.nearby(0), "a");
        House.due("near() of b", house.near("b"), 1);
        House.due("it is MANY", house.nearby(0), "a");
        House.due("near() of ab", house.near("ab"), 2);
        House.due("MANY, too", house.nearby(0), "a");
        House.due("and b", house.nearby(1), "b");
        House.due("near() of a, which is MANY itself", house.near("a"), 1);
        House.due("b", house.nearby(0), "b");
        House.due("near() of 1,999", House.of(manyWays(0)).near("aa"), 1);
    }

    /** 7 by one taken out, 91 changed, 105 put in: the last ones of the row count, too. */
    private static void nearOfFourteenLetters() {
        House.asks("15: how many other WORDS of at most 8 come of it");
        House house = House.of("letters n m l k j i h g f e d c b a; lexicon Root { n -> B; abcdef -> C; a -> D; bcdef -> C; } lexicon B { abcdef -> C; "
                + "bcdef -> C; } lexicon C { g -> end; gn -> end; gg -> end; n -> end; 0 -> end; ng -> end; } lexicon D { abcdef -> C; acdef -> C; }");
        House.due("near() of abcdefg", house.near("abcdefg"), 10);
        String[] due = {"aabcdefg", "aacdefg", "abcdef", "abcdefgg", "abcdefgn", "abcdefn", "abcdefng", "bcdefg", "nabcdefg", "nbcdefg"};
        for (int k = 0; k < due.length; k++) {
            House.due("nearby " + k, house.nearby(k), due[k]);
        }
    }

    private static void nearbyBytes() {
        House.asks("16: Byte i of the k-th one, ordered as form() does; 0 behind its end; NONE if there is none such, or i is below 0.");
        House house = House.of("letters b a; lexicon Root { ba -> end; b -> end; bab -> end; aba -> end; baba -> end; aa -> end; }");
        House.due("near() of ba", house.near("ba"), 4);
        String[] due = {"aa", "aba", "b", "bab"};
        for (int k = 0; k < due.length; k++) {
            House.due("nearby " + k, house.nearby(k), due[k]);
            House.due("behind its end", house.it.nearby(k, due[k].length()), 0);
            House.due("byte 8", house.it.nearby(k, 8), 0);
            House.due("a far byte", house.it.nearby(k, Integer.MAX_VALUE), 0);
            House.due("below 0", house.it.nearby(k, -1), -1);
            House.due("far below 0", house.it.nearby(k, Integer.MIN_VALUE), -1);
        }
        for (int k : new int[] {-1, 4, 5, Integer.MIN_VALUE, Integer.MAX_VALUE}) {
            House.due("nearby(" + k + ", 0)", house.it.nearby(k, 0), -1);
            House.due("nearby(" + k + ", 9)", house.it.nearby(k, 9), -1);
        }
    }

    private static void nearbyOfTheLatest() {
        House.asks("16: NONE if there is none such");
        House house = House.of(PLAIN);
        House.due("before the first one", house.it.nearby(0, 0), -1);
        House.due("a refused one", house.near(""), -1);
        House.due("still none", house.it.nearby(0, 0), -1);
        House.due("near()", house.near("ba"), 2);
        House.due("analyse()", house.analyse("c"), 0);
        House.due("analyse() changes none", house.nearby(1), "b");
        House.due("near() of cccc", house.near("cccc"), 0);
        House.due("none", house.it.nearby(0, 0), -1);
        House.due("near()", house.near("bb"), 2);
        House.due("the first", house.nearby(0), "b");
        House.due("the second", house.nearby(1), "ba");
        House.due("a text", house.read(PLAIN), 0);
        House.due("none then", house.it.nearby(0, 0), -1);
    }
}
