/** Promises 11 to 16: analyses, ways, candidates, words near a word. */
public final class WordsTest {
    public static void main(String[] args) {
        analyses();
        ways();
        order();
        unified();
        lengths();
        many();
        near();
        nearEdges();
        House.close("WordsTest");
    }

    private static void analyses() {
        House house = House.of("letters a b A; pair A:a A:0; rule r A:a => b _; rule q A:a /<= b b _;"
                + "lexicon Root { bA -> Next {n p}; bb -> Next {n q}; A -> Next; } "
                + "lexicon Next { 0 -> end 3; A -> end {n p}; b -> end {n q}; }");
        House.due("candidates() before", house.it.candidates(), 0);
        House.due("candidate before", house.it.candidate(0, 0), -1);
        House.due("way before", house.it.way(0, 0), -1);
        House.due("write before", house.it.write(1, 0), -1);
        House.due("analyse ba", house.analyse("ba"), 2);
        House.due("candidates", house.it.candidates(), 3);
        // the candidates by their pairs: A:a is 2, A:0 is 3
        int[][] rows = {{32, 0, 3, -1, -1, 1, 2, -1}, {32, 0, 4, -1, -1, 1, 2, 3}, {0, 0, 4, -1, -1, 1, 3, 2}};
        for (int c = 0; c < rows.length; c++) {
            for (int what = 0; what < 8; what++) {
                House.due("candidate(" + c + ", " + what + ")", house.it.candidate(c, what), rows[c][what]);
            }
        }
        House.due("candidate(3, 0)", house.it.candidate(3, 0), -1);
        House.due("candidate(-1, 0)", house.it.candidate(-1, 0), -1);
        House.due("candidate(0, -1)", house.it.candidate(0, -1), -1);
        House.due("candidate(0, min)", house.it.candidate(0, Integer.MIN_VALUE), -1);
        House.due("candidate(0, 20)", house.it.candidate(0, 20), -1);
        House.due("candidate(0, 21)", house.it.candidate(0, 21), -1);
        House.due("candidate(0, max)", house.it.candidate(0, Integer.MAX_VALUE), -1);
        House.due("way(1, 1)", house.it.way(1, 1), 4);
        House.due("way(1, 2)", house.it.way(1, 2), -1);
        House.due("way(1, 4)", house.it.way(1, 4), -1);
        House.due("way(1, -1)", house.it.way(1, -1), -1);
        House.due("way(2, 0)", house.it.way(2, 0), -1);
        House.due("way(-1, 0)", house.it.way(-1, 0), -1);
        House.due("written", house.written(1, 1), "{n p}");
        House.due("analyse of no word", house.analyse("bA"), -1);
        House.due("analyse of no letter", house.analyse("bc"), -1);
        House.due("analyse of nothing", house.analyse(""), -1);
        House.due("analyse of 17", house.analyse("b".repeat(17)), -1);
        House.due("the tape is empty then", house.it.count(9), 0);
        House.due("the latest stays", house.it.candidates(), 3);
        House.due("write of none", house.it.write(1, 2), -1);
        House.due("what was written stays", house.it.octet(1), 'n');
        House.due("analyse bba", house.analyse("bba"), 0);
        House.due("its candidates", house.it.candidates(), 1);
        House.due("the broken rule", house.it.candidate(0, 0), 1);
        House.due("analyse a", house.analyse("a"), 0);
        House.due("analyse b of 0s", house.analyse("b"), 3);
    }

    private static void ways() {
        House house = House.of("letters a; lexicon Root { a -> Root; a -> end; 0 -> Root; }");
        // one to four entries: the last is entry 1, the others are 0 or 2
        House.due("analyse a", house.analyse("a"), 4);
        House.due("first", house.it.way(0, 0), 1);
        House.due("second", house.it.way(1, 0), 2);
        House.due("its end", house.it.way(1, 1), 1);
        House.due("last", house.it.way(3, 3), 1);
        House.due("last, 2", house.it.way(3, 2), 2);
        House.due("analyse aa", house.analyse("aa"), 6);
        House.due("analyse aaa", house.analyse("aaa"), 4);
        House.due("way(0, 2)", house.it.way(0, 2), 1);
        House.due("analyse aaaa", house.analyse("aaaa"), 1);
        House.due("analyse aaaaa", house.analyse("aaaaa"), 0);
    }

    private static void order() {
        House house = House.of("letters a b; pair b:a a:b; lexicon Last { b -> end; a -> end; } "
                + "lexicon Root { b -> Last; a -> Last; ab -> end; } ");
        House.due("analyse ab", house.analyse("ab"), 5);
        House.due("candidates", house.it.candidates(), 5);
        int[][] due = {{2, 0}, {2, 1}, {3, 0}, {3, 1}, {4, -1}};
        for (int k = 0; k < due.length; k++) {
            House.due("way(" + k + ", 0)", house.it.way(k, 0), due[k][0]);
            House.due("way(" + k + ", 1)", house.it.way(k, 1), due[k][1]);
        }
    }

    private static void unified() {
        House house = House.of("letters a b; lexicon Root { a -> N {f #1 g #1}; b -> N {f {h #1} g #1}; ab -> end 5 {f p}; }"
                + "lexicon N { a -> end {f p}; b -> end {f p g q}; ba -> end {f #1={h {}} g #1}; }");
        House.due("analyse aa", house.analyse("aa"), 1);
        House.due("written", house.written(1, 0), "{f p g p}");
        House.due("analyse ab", house.analyse("ab"), 1);
        House.due("its way", house.it.way(0, 0), 2);
        House.due("a structure within itself", house.analyse("bba"), 0);
        House.due("its candidate is good", house.it.candidate(0, 0), 32);
        StringBuilder wide = new StringBuilder("letters a; ");
        String[] names = {"Root", "B", "C", "D"};
        for (int l = 0; l < 4; l++) {
            wide.append("lexicon ").append(names[l]).append(" { a -> ").append(l < 3 ? names[l + 1] : "end").append(" {");
            for (int f = 0; f < 10; f++) {
                wide.append("f").append(l).append(f).append(" p ");
            }
            wide.append("}; a -> ").append(l < 3 ? names[l + 1] : "end").append(" {g p}; }");
        }
        House big = House.of(wide.toString());
        House.due("40 features", big.analyse("aaaa"), 16);
        House.due("the first one", big.it.way(0, 3), 6);
        House over = House.of(wide.toString().replace("f09 p", "f09 p h p"));
        House.due("41 features are too many", over.analyse("aaaa"), 15);
        House.due("the first one", over.it.way(0, 3), 7);
    }

    private static void lengths() {
        House house = House.of("letters a A; pair A:0; lexicon Root { aaaaaa -> Root; aaaa -> end; AAAA -> end; AAAAA -> end; }");
        House.due("16 letters", house.analyse("a".repeat(16)), 1);
        House.due("its pairs", house.it.candidate(0, 20), 0);
        House.due("a deep side of 16 letters", house.analyse("a".repeat(12)), 1);
        House.due("its last pair", house.it.candidate(0, 20), 1);
        House.due("its way", house.it.way(0, 2), 2);
        House.due("12 and 5 are too many", house.it.candidates(), 1);
    }

    private static void many() {
        String lexicons = "lexicon Root { E -> end; EEEEEE -> Next; a -> end; } lexicon Next { EEEEEE -> end; a -> end;}";
        House house = House.of("letters a E; pair E:0 E:a; " + lexicons);
        House.due("candidates of aaa", house.analyse("aaa"), 2);
        // 12 letters E, 3 of them written a: 220; 6 letters, 2 of them, and an a: 15
        House.due("their number", house.it.candidates(), 235);
        House more = House.of("letters a b E; pair E:0 E:a E:b; lexicon Root { EEEEEE -> Next; } "
                + "lexicon Next { EEEEEE -> end; EEEEEE -> end; EEEEEE -> end; 0 -> end; }");
        House.due("792 of 5 in 12, three times", more.analyse("aabba"), -2);
        House.due("candidates()", more.it.candidates(), -2);
        House.due("candidate(0, 0)", more.it.candidate(0, 0), -1);
        House.due("way(0, 0)", more.it.way(0, 0), -1);
        House.due("write(1, 0)", more.it.write(1, 0), -1);
        // of two letters: 2 by one taken out, 4 by one changed, 6 by one put in
        House.due("near of many", more.near("aabb"), 12);
        House exact = House.of("letters a E; pair E:0; lexicon Root { 0 -> B; 0 -> B; 0 -> B; 0 -> B; a -> end; }"
                + lexicon("B", 8, "C") + lexicon("C", 8, "D") + "lexicon D { a -> end; 0 -> end; a -> end; a -> end;"
                + " a -> end; a -> end; a -> end; a -> end; }");
        House.due("1793 ways", exact.analyse("a"), 1793);
        House.due("the last one", exact.it.way(1792, 0), 4);
        House.due("and none", exact.it.way(1793, 0), -1);
        String five = "lexicon Root { 0 -> B; 0 -> B; 0 -> B; 0 -> B; 0 -> B; } lexicon B { " + "0 -> C; ".repeat(8) + "} ";
        String limit = five + "lexicon C { " + "0 -> D; ".repeat(7) + "a -> end; } lexicon D { " + "a -> end; ".repeat(7) + "}";
        House rim = House.of("letters a; " + limit);
        House.due("2000 candidates", rim.analyse("a"), 2000);
        House.due("candidates()", rim.it.candidates(), 2000);
        House.due("the last one", rim.it.candidate(1999, 1), 4);
        House above = House.of("letters a; " + limit.replace("lexicon Root {", "lexicon Root { a -> end; "));
        House.due("2001 candidates", above.analyse("a"), -2);
    }

    private static String lexicon(String name, int n, String goal) {
        return "lexicon " + name + " { " + ("0 -> " + goal + "; ").repeat(n) + "} ";
    }

    private static void near() {
        House house = House.of("letters a b c A; pair A:0; lexicon Root { ab -> end; ba -> end; abc -> end; b -> end; a -> end;"
                + " abcA -> end; cab -> end; }");
        House.due("nearby before", house.it.nearby(0, 0), -1);
        House.due("near ab", house.near("ab"), 4);
        House.due("first", house.nearby(0), "a");
        House.due("second", house.nearby(1), "abc");
        House.due("third", house.nearby(2), "b");
        House.due("fourth", house.nearby(3), "cab");
        House.due("behind the end", house.it.nearby(0, 1), 0);
        House.due("far behind the end", house.it.nearby(0, Integer.MAX_VALUE), 0);
        House.due("below 0", house.it.nearby(0, -1), -1);
        House.due("no such k", house.it.nearby(4, 0), -1);
        House.due("k below 0", house.it.nearby(-1, 0), -1);
        House.due("near of no word", house.near("aB"), -1);
        House.due("near of 9 letters", house.near("a".repeat(9)), -1);
        House.due("near of nothing", house.near(""), -1);
        House.due("the latest stays", house.nearby(3), "cab");
        House.due("near cc", house.near("cc"), 0);
        House.due("none then", house.it.nearby(0, 0), -1);
        House.due("near leaves the latest analyse()", house.it.candidates(), 0);
    }

    private static void nearEdges() {
        House house = House.of("letters a b; pair a:0; lexicon Root { aaaa -> Root; aaa -> end; aaaa -> end; bbbb -> Root; }");
        House.due("near of one letter", house.near("a"), 1);
        House.due("two letters, not none", house.nearby(0), "aa");
        House.due("near of 8", house.near("aaaaaaaa"), 1);
        House.due("7 letters, not 9", house.nearby(0), "aaaaaaa");
        House.due("near of 7 comes to 8", house.near("aaabbbb"), 3);
        House.due("8 letters", house.nearby(0), "aaaabbbb");
        House.due("8 letters", house.nearby(1), "aaabbbba");
        House.due("6 letters", house.nearby(2), "aabbbb");
    }
}
