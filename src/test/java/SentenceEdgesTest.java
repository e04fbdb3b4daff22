/** Promises 22 to 27 at their edges. */
public final class SentenceEdgesTest {
    private static final String PLAIN = "letters a b c A; lexicon Root { a -> end {cat s}; b -> end {cat t}; } start s; ";

    public static void main(String[] args) {
        wordPlaces();
        wordSizes();
        wordsRefused();
        ninthWord();
        insertPlaces();
        insertNinth();
        removePlaces();
        parseWithout();
        atomsOfCat();
        catsThatAreNoAtoms();
        pathsAtAtoms();
        ringsAside();
        sizesOfForty();
        chainsOnce();
        thirtyTrees();
        thirtyTreesOfTwoWords();
        fourHundredPairs();
        manyWithin();
        manyWords();
        readingOrder();
        chainOrder();
        theBest();
        theBestOfTheLatest();
        theLargestCosts();
        theTwelfthRule();
        fortyKept();
        keptComesToTheEnd();
        keptWithoutItsRows();
        manyAreKept();
        rowsWithinOneSentence();
        eightWords();
        readingNumbers();
        nodeNumbers();
        theSentenceAsItWas();
        House.close("SentenceEdgesTest");
    }

    private static void wordPlaces() {
        House.asks("22: word i of the sentence becomes it (i from 0 on; i as many as there are: it comes behind): how many words there are. "
                + "NONE: .. no such i");
        House house = House.of(PLAIN);
        for (int n = 0; n < 8; n++) {
            for (int i : new int[] {-1, n + 1, n + 2, 8, 9, Integer.MIN_VALUE, Integer.MAX_VALUE}) {
                if (i != n) {
                    House.due("word(" + i + ") of " + n, house.word(i, "a"), -1);
                    House.due("the tape is empty then", house.it.count(9), 0);
                    House.due("count(10)", house.it.count(10), n);
                }
            }
            House.due("word(" + n + ")", house.word(n, "a"), n + 1);
            House.due("word(0) again", house.word(0, "a"), n + 1);
            House.due("word(" + n + ") again", house.word(n, "b"), n + 1);
        }
        House.due("count(10)", house.it.count(10), 8);
    }

    private static void wordSizes() {
        House.asks("22: The tape tells a WORD; .. NONE: it is no WORD");
        House house = House.of(PLAIN);
        for (int n = 0; n <= 20; n++) {
            House.due("word() of " + n + " letters", house.word(0, "a".repeat(n)), n >= 1 && n <= 16 ? 1 : -1);
            House.due("insert() of " + n + " letters", house.insert(0, "a".repeat(n)), n >= 1 && n <= 16 ? 2 : -1);
            House.due("the tape is empty then", house.it.count(9), 0);
            house.it.remove(house.it.count(10) > 1 ? 0 : -1);
        }
    }

    private static void wordsRefused() {
        House.asks("22, 23: NONE: it is no WORD");
        House house = House.of(PLAIN);
        house.sentence("a", "b");
        String[] wrong = {"", "A", "aA", "d", "ad", "0", "a0", "a ", " a", "a\0", "\u00e1", "a".repeat(17)};
        for (String word : wrong) {
            House.due("word(0) of " + word, house.word(0, word), -1);
            House.due("word(2) of " + word, house.word(2, word), -1);
            House.due("insert(0) of " + word, house.insert(0, word), -1);
            House.due("insert(2) of " + word, house.insert(2, word), -1);
            House.due("the tape is empty then", house.it.count(9), 0);
            House.due("count(10)", house.it.count(10), 2);
        }
        house.it.remove(1);
        House.due("the words stay", house.it.parse(), 1);
    }

    private static void ninthWord() {
        House.asks("22: NONE: .. or a 9th one.");
        House house = House.of(PLAIN);
        house.sentence("a", "b", "b", "b", "b", "b", "b", "b");
        House.due("eight", house.it.count(10), 8);
        House.due("word(8)", house.word(8, "a"), -1);
        House.due("the tape is empty then", house.it.count(9), 0);
        House.due("word(7)", house.word(7, "a"), 8);
        House.due("remove(7)", house.it.remove(7), 7);
        House.due("word(8) of 7", house.word(8, "a"), -1);
        House.due("word(7) of 7", house.word(7, "a"), 8);
        House.due("word(8) of 8", house.word(8, "a"), -1);
    }

    private static void insertPlaces() {
        House.asks("23: it comes in ahead of word i (or behind all): as word().");
        House house = House.of("letters a b c d; lexicon Root { a -> end 1 {cat s}; b -> end 10 {cat s}; c -> end 100 {cat s}; }"
                + "grammar s -> s s; start s;");
        for (int i : new int[] {-1, 1, 2, 8, Integer.MIN_VALUE, Integer.MAX_VALUE}) {
            House.due("insert(" + i + ") of none", house.insert(i, "a"), -1);
            House.due("the tape is empty then", house.it.count(9), 0);
        }
        House.due("insert(0) of none", house.insert(0, "a"), 1);
        House.due("insert(1), behind all", house.insert(1, "b"), 2);
        House.due("insert(3) of two", house.insert(3, "b"), -1);
        House.due("insert(0)", house.insert(0, "c"), 3);
        House.due("insert(1)", house.insert(1, "d"), 4);
        // c d a b: only these have no analysis where d is
        House.due("parse()", house.it.parse(), 0);
        House.due("remove(1)", house.it.remove(1), 3);
        house.it.remove(1);
        House.due("parse() of c b", house.it.parse(), 1);
        House.due("its cost", house.it.reading(0, 0), 110);
        House.due("insert(1)", house.insert(1, "a"), 3);
        House.due("parse() of c a b", house.it.parse(), 2);
        house.it.remove(2);
        House.due("parse() of c a", house.it.parse(), 1);
        House.due("its cost", house.it.reading(0, 0), 101);
    }

    private static void insertNinth() {
        House.asks("23: as word(): NONE: .. or a 9th one.");
        House house = House.of(PLAIN);
        for (int n = 0; n < 8; n++) {
            House.due("insert(0)", house.insert(0, "b"), n + 1);
        }
        for (int i = -1; i <= 9; i++) {
            House.due("insert(" + i + ") of 8", house.insert(i, "a"), -1);
            House.due("the tape is empty then", house.it.count(9), 0);
            House.due("count(10)", house.it.count(10), 8);
        }
        House.due("remove(7)", house.it.remove(7), 7);
        House.due("insert(7) of 7", house.insert(7, "a"), 8);
    }

    private static void removePlaces() {
        House.asks("24: Word i goes: how many there are; NONE if there is none such.");
        House house = House.of(PLAIN);
        House.due("remove(0) of none", house.it.remove(0), -1);
        house.sentence("a", "b", "c");
        house.tell("ab");
        for (int i : new int[] {-1, 3, 4, 8, Integer.MIN_VALUE, Integer.MAX_VALUE}) {
            House.due("remove(" + i + ") of 3", house.it.remove(i), -1);
            House.due("count(10)", house.it.count(10), 3);
        }
        House.due("the tape stays", house.it.count(9), 2);
        house.it.back(2);
        House.due("remove(2), the last", house.it.remove(2), 2);
        House.due("remove(2) of 2", house.it.remove(2), -1);
        House.due("remove(1)", house.it.remove(1), 1);
        House.due("parse() of a", house.it.parse(), 1);
        House.due("remove(0)", house.it.remove(0), 0);
        House.due("remove(0) of none", house.it.remove(0), -1);
        house.sentence("b", "a");
        House.due("remove(0)", house.it.remove(0), 1);
        House.due("parse() of a", house.it.parse(), 1);
    }

    private static void parseWithout() {
        House.asks("25: NONE, and nothing is done, without words or a start.");
        House house = House.of(PLAIN);
        House.due("without words", house.it.parse(), -1);
        house.sentence("a");
        House.due("with one", house.it.parse(), 1);
        house.it.remove(0);
        House.due("without words", house.it.parse(), -1);
        House.due("the latest stays", house.it.reading(0, 1), 1);
        House.due("count(11)", house.it.count(11), 1);
        House.due("count(12)", house.it.count(12), 1);
        House.due("count(13)", house.it.count(13), 1);
        House bare = House.of(PLAIN.replace("start s;", ""));
        bare.sentence("a");
        House.due("without a start", bare.it.parse(), -1);
        for (int what = 11; what <= 13; what++) {
            House.due("count(" + what + ")", bare.it.count(what), 0);
        }
        House.due("count(10)", bare.it.count(10), 1);
        House.due("without both", new SentenceHouse().parse(), -1);
        House other = House.of(PLAIN.replace("start s;", "start nobody;"));
        other.sentence("a");
        House.due("a start that no cat is", other.it.parse(), 0);
        House.due("count(11)", other.it.count(11), 1);
    }

    private static void atomsOfCat() {
        House.asks("READINGS of the sentence are the trees over all of it whose structure's cat is the ATOM that start tells");
        House house = House.of("letters a b c d; lexicon Root { a -> end {cat s}; b -> end {cat {}}; c -> end {cat {s s}}; d -> end; } start s;");
        String[] words = {"a", "b", "c", "d"};
        int[] due = {1, 0, 0, 0};
        for (int i = 0; i < 4; i++) {
            house.sentence(words[i]);
            House.due("parse() of " + words[i], house.it.parse(), due[i]);
        }
        House rule = House.of("letters a b c d; lexicon Root { a -> end {cat s}; b -> end {cat {}}; c -> end {cat {s s}}; d -> end; } "
                + "grammar t -> s; start t;");
        int[] put = {1, 1, 0, 1};
        for (int i = 0; i < 4; i++) {
            rule.sentence(words[i]);
            House.due("the rule upon " + words[i], rule.it.parse(), put[i]);
        }
    }

    private static void catsThatAreNoAtoms() {
        House.asks("first the nodes x0.cat and an ATOM S are unified, x1.cat and A, x2.cat and B");
        // three analyses: would the rules be put upon them there were more than 30 trees
        House house = House.of("letters a b; lexicon Root { " + "a -> end {cat {s s}}; ".repeat(3) + "b -> end {cat s}; } " + "grammar t -> s;".repeat(11)
                + "grammar s -> s s; start s;");
        house.only("a");
        House.due("parse() of a", house.it.parse(), 0);
        house.only("b", "a");
        House.due("parse() of b a", house.it.parse(), 0);
        house.only("a", "b");
        House.due("parse() of a b", house.it.parse(), 0);
        house.only("b", "b");
        House.due("parse() of b b", house.it.parse(), 1);
    }

    /** What comes of one rule upon structures for a and b. */
    private static void applied(String a, String b, String equations, String due) {
        House house = House.of("letters a b; lexicon Root { a -> end " + a + "; b -> end " + b + "; } grammar s -> t u : " + equations + "; start s;");
        house.sentence("a", "b");
        house.it.parse();
        House.due("the rule : " + equations + " upon " + a + " " + b, house.written(2, 0), due);
    }

    private static void pathsAtAtoms() {
        House.asks("A PATH goes down by FEATURES; one that is missing comes (EMPTY); at an ATOM it fails.");
        applied("{cat t f p}", "{}", "x0.f = x1.f", "{cat s f p}");
        applied("{cat t f p}", "{}", "x0.f = x1.f.g", "NONE");
        applied("{cat t f p}", "{}", "x0.f = x1.f.g.h.i", "NONE");
        applied("{cat t f p}", "{}", "x1.cat.a.b.c = x0.f", "NONE");
        applied("{cat t f {}}", "{}", "x0.f = x1.f.g", "{cat s f {}}");
        applied("{cat t}", "{}", "x0.f = x1.f.g.h.i", "{cat s f {}}");
        applied("{cat t}", "{}", "x0.f.g.h.i = x1.f.g.h.i", "{cat s f {g {h {i {}}}}}");
        applied("{cat t}", "{}", "x0.f = x1.cat", "{cat s f t}");
        applied("{cat t}", "{}", "x0.f = x1.cat.g", "NONE");
        applied("{cat t}", "{}", "x0.cat = t", "NONE");
        applied("{cat t}", "{}", "x0.cat = s", "{cat s}");
        applied("{cat t}", "{}", "x0 = p", "NONE");
        applied("{cat t}", "{}", "x1 = x0", "NONE");
        applied("{cat t f p}", "{g p}", "x0.f = x1.f, x0.g = x2.g, x1.h = x2.h, x0.h = x1.h, x2.h = q", "{cat s f p g p h q}");
        applied("{cat t f p}", "{f q}", "x1.f = x2.f", "NONE");
        applied("{cat t f p}", "{f {}}", "x1.f = x2.f, x0.f = x2.f", "{cat s f p}");
    }

    private static void ringsAside() {
        House.asks("If nothing fails, no node of all lies within itself");
        applied("{cat t f {}}", "{}", "x0.f = x1.f", "{cat s f {}}");
        applied("{cat t f {}}", "{}", "x0.f = x0", "NONE");
        applied("{cat t f {}}", "{}", "x1.f = x1", "NONE");
        applied("{cat t}", "{}", "x2.f.g.h = x2.f", "NONE");
        applied("{cat t}", "{}", "x1.f = x2, x2.f = x1", "NONE");
        applied("{cat t}", "{}", "x1.f = x2, x2.f = x0", "{cat s}");
        applied("{cat t}", "{}", "x1.f = x1.g, x1.f.h = x1.g.i", "{cat s}");
    }

    private static String features(String letter, int n) {
        StringBuilder s = new StringBuilder();
        for (int i = 0; i < n; i++) {
            s.append(' ').append(letter).append(i).append(" p");
        }
        return s.toString();
    }

    private static void sizesOfForty() {
        House.asks("and the SIZE of x0 is at most 40, x0 is what comes.");
        for (int n = 16; n <= 18; n++) {
            House house = House.of("letters a b; lexicon Root { a -> end {cat t" + features("f", 18) + "}; b -> end {cat u" + features("g", n)
                    + "}; } grammar s -> t u : x0.h = x1, x0.i = x2; start s;");
            house.sentence("a", "b");
            // cat, h and i, 19 of a, and 1 + n of b
            int size = 3 + 19 + 1 + n;
            House.due("x0 of SIZE " + size, house.it.parse(), size <= 40 ? 1 : 0);
            House.due("its SIZE", house.it.reading(0, 2), size <= 40 ? size : -1);
            House.due("all rows are worked", house.it.count(13), 3);
        }
        House shared = House.of("letters a b; lexicon Root { a -> end {cat t" + features("f", 18) + "}; b -> end {cat u" + features("g", 19)
                + "}; } grammar s -> t u : x0.h = x1, x0.i = x1, x0.j = x1; start s;");
        shared.sentence("a", "b");
        House.due("x2 is not measured, x1 once", shared.it.parse(), 1);
        House.due("its SIZE", shared.it.reading(0, 2), 4 + 19);
    }

    private static void chainsOnce() {
        House.asks("no node of a rule with one tree may lie within another one of the same rule over the same row.");
        House one = House.of("letters a; lexicon Root { a -> end {cat s}; } grammar s -> s; start s;");
        one.sentence("a");
        House.due("one rule", one.it.parse(), 2);
        House.due("the first", one.tree(0), "32[00]");
        House.due("the second", one.tree(1), "0[00] 32[00]");
        House.due("nodes", one.it.reading(1, 1), 2);
        House two = House.of("letters a; lexicon Root { a -> end {cat s}; } grammar t -> s; grammar s -> t; start s;");
        two.sentence("a");
        House.due("two rules in turn", two.it.parse(), 2);
        House.due("the second", two.tree(1), "1[00] 0[00] 32[00]");
        House both = House.of("letters a; lexicon Root { a -> end {cat s}; } grammar s -> s; grammar s -> s s; start s;");
        both.sentence("a", "a");
        // over each word 2 trees: 4 by the rule with two, and the rule with one upon each of these
        House.due("over another row it may", both.it.parse(), 8);
        House.due("three of the rule", both.tree(3), "0[01] 1[01] 0[00] 32[00] 0[11] 32[11]");
        House like = House.of("letters a; lexicon Root { a -> end {cat s}; } grammar s -> s 1; grammar s -> s 1; start s;");
        like.sentence("a");
        House.due("two rules that are alike", like.it.parse(), 5);
    }

    /** Of the word a: 28 analyses, and one for each of these ENTRIES. */
    private static String analyses(int more) {
        return "letters a; lexicon Root { " + "0 -> B; ".repeat(4) + "a -> end {cat s}; ".repeat(more) + "} lexicon B { "
                + "a -> end {cat s}; ".repeat(7) + "} start s; ";
    }

    private static void thirtyTrees() {
        House.asks("A row is MANY .. if there would be more than 30 trees over it.");
        int[] due = {28, 29, 30, -2, -2};
        for (int more = 0; more <= 4; more++) {
            House house = House.of(analyses(more));
            house.sentence("a");
            House.due("parse() of " + (28 + more) + " analyses", house.it.parse(), due[more]);
            House.due("reading(0, 0)", house.it.reading(0, 0), due[more] > 0 ? 0 : -1);
            House.due("the last one", house.it.node(27 + more, 0, 0), due[more] > 0 ? 32 + 27 + more : -1);
            House.due("and none", house.it.reading(28 + more, 0), -1);
            House.due("analyse() of it", house.analyse("a"), 28 + more);
        }
        House chain = House.of(analyses(1).replaceFirst("a -> end \\{cat s\\}", "a -> end {cat t}") + "grammar u -> t;");
        chain.sentence("a");
        House.due("29 analyses and a rule upon one: 30", chain.it.parse(), 28);
        House over = House.of(analyses(1).replaceFirst("a -> end \\{cat s\\}", "a -> end {cat t}") + "grammar u -> t; grammar v -> u;");
        over.sentence("a");
        House.due("31, of whatever cat", over.it.parse(), -2);
    }

    private static void thirtyTreesOfTwoWords() {
        House.asks("more than 30 trees over it: of rules with two trees");
        String words = "letters a b; lexicon Root { " + "a -> end {cat t}; ".repeat(3) + "a -> end {cat tt}; " + "b -> end {cat u}; ".repeat(4)
                + "} lexicon More { a -> end; } start s; ";
        // 3 * 4 by each of the first rules, 4 by the third
        String[] rules = {"grammar s -> t u; grammar s -> t u;", "grammar s -> t u; grammar s -> t u; grammar s -> tt u;",
            "grammar s -> t u; grammar s -> t u; grammar s -> tt u : x0.f = x0.g; grammar r -> s : x1.f = p;"};
        int[] due = {24, 28, -2};
        for (int i = 0; i < rules.length; i++) {
            House house = House.of(words + rules[i]);
            house.sentence("a", "b");
            House.due("parse() with " + rules[i], house.it.parse(), due[i]);
        }
        String five = "letters a b; lexicon Root { " + "a -> end {cat t}; ".repeat(5) + "0 -> B; } lexicon B { " + "b -> end {cat u}; ".repeat(6)
                + "} grammar s -> t u; start s; ";
        House rim = House.of(five);
        rim.sentence("a", "b");
        House.due("5 times 6", rim.it.parse(), 30);
        House.due("the last one", rim.tree(29), "0[01] 36[00] 37[11]");
        House.due("and none", rim.it.reading(30, 0), -1);
        House above = House.of(five.replace("0 -> B;", "0 -> B; a -> end {cat v};") + "grammar s -> v u : x2.k = p;");
        above.sentence("a", "b");
        House.due("36", above.it.parse(), -2);
    }

    private static void fourHundredPairs() {
        House.asks("if more than 400 pairs of trees could make it up (over all places where it can be parted, those over the first part "
                + "times those over the second, whatever the rules)");
        // two words: 19 * 21, 20 * 20, 20 * 21
        int[][] sizes = {{19, 21, 0}, {20, 20, 0}, {20, 21, -2}, {16, 25, 0}, {25, 16, 0}, {17, 24, -2}, {14, 29, -2}, {13, 30, 0}};
        for (int[] s : sizes) {
            House house = House.of(twoWords(s[0], s[1]));
            house.sentence("a", "b");
            House.due(s[0] + " times " + s[1], house.it.parse(), s[2]);
        }
        // three words: 20 * 20 for a with b c, and one tree over a b, or none, with c
        House exact = House.of(rimOfTwenty());
        exact.sentence("a", "b", "c");
        House.due("400", exact.it.parse(), 0);
        House above = House.of(rimOfTwenty() + "grammar z -> t u : x1.k = p, x2.k = p;");
        above.sentence("a", "b", "c");
        House.due("401", above.it.parse(), -2);
        House.due("MANY is kept", above.it.count(12), 6);
        above.it.remove(2);
        House.due("a b has 400", above.it.parse(), 0);
    }

    /** a and b have so many analyses each, up to 32. */
    private static String twoWords(int a, int b) {
        StringBuilder s = new StringBuilder("letters a b; lexicon Root { 0 -> A; 0 -> A; 0 -> A; 0 -> B; 0 -> B; 0 -> B; 0 -> AA; 0 -> BB; }");
        int[] of = {a, b};
        for (int w = 0; w < 2; w++) {
            String letter = w == 0 ? "a" : "b";
            String name = w == 0 ? "A" : "B";
            s.append("lexicon ").append(name).append(" { ").append((letter + " -> end; ").repeat(of[w] / 3 > 8 ? 8 : of[w] / 3)).append("} ");
            int rest = of[w] - 3 * (of[w] / 3 > 8 ? 8 : of[w] / 3);
            s.append("lexicon ").append(name).append(name).append(" { ").append((letter + " -> end; ").repeat(rest)).append("} ");
        }
        return s + "start s;";
    }

    /** 20 trees over a, 20 over b, 20 over b c, one or none over a b. */
    private static String rimOfTwenty() {
        return "letters a b c; lexicon Root { a -> end {cat t k p}; " + "a -> end {cat t k q}; ".repeat(3) + "b -> end {cat u k p}; "
                + "b -> end {cat u k q}; ".repeat(2) + "0 -> More; } lexicon More { b -> end {cat u k q}; c -> end {cat v}; } "
                + "grammar t -> t : x0.k = q; grammar t -> t : x0.k = q; grammar u -> u : x0.k = q; grammar u -> u : x0.k = q;"
                + "grammar w -> u v; start w; ";
    }

    private static void manyWithin() {
        House.asks("A row is MANY .. if a row in it is MANY");
        House house = House.of("letters a b; lexicon Root { a -> end {cat s}; b -> end {cat t}; } grammar s -> s s; start t;");
        house.sentence("a", "a", "a", "a", "a");
        House.due("14 trees", house.it.parse(), 0);
        house.word(5, "a");
        House.due("42 trees", house.it.parse(), -2);
        house.word(6, "b");
        House.due("a row with them", house.it.parse(), -2);
        house.it.remove(0);
        House.due("without the first", house.it.parse(), 0);
        house.insert(0, "b");
        House.due("five between two", house.it.parse(), 0);
        house.insert(1, "a");
        House.due("six between two", house.it.parse(), -2);
    }

    private static void manyWords() {
        House.asks("A row is MANY, if a word of it is MANY");
        String lexicons = "lexicon Root { " + "0 -> B; ".repeat(4) + "b -> end {cat s}; MORE } lexicon B { " + "0 -> C; ".repeat(8)
                + "} lexicon C { " + "0 -> D {k p}; ".repeat(8) + "} lexicon D { " + "a -> end {k q}; ".repeat(7) + "c -> end; }";
        // 4 * 8 * 8 * 7 candidates of a, none of which can be unified: 1,792; with 4 * 52 more: 2,000
        House few = House.of("letters a b c; " + lexicons.replace("MORE", "") + " start s;");
        few.sentence("b", "a");
        House.due("1,792 candidates without an analysis", few.it.parse(), 0);
        House many = House.of("letters a b c; " + lexicons.replace("MORE", "0 -> B;") + " start s;");
        many.sentence("b", "a");
        House.due("2,240 candidates", many.it.parse(), -2);
        many.sentence("a");
        House.due("a b", many.it.parse(), -2);
        many.it.remove(0);
        House.due("a alone", many.it.parse(), -2);
        House.due("reading(0, 0)", many.it.reading(0, 0), -1);
        many.sentence("b");
        House.due("b alone", many.it.parse(), 1);
    }

    private static void readingOrder() {
        House.asks("TREES over one row are ordered: ANALYSES first, in order; then by the rule's number; then (with two) by how long the first "
                + "row is; then by the first tree, then by the second.");
        House house = House.of("letters a; lexicon Root { a -> end {cat s}; a -> end {cat s}; } grammar s -> s s; start s;");
        house.sentence("a", "a");
        House.due("parse()", house.it.parse(), 4);
        String[] due = {"0[01] 32[00] 32[11]", "0[01] 32[00] 33[11]", "0[01] 33[00] 32[11]", "0[01] 33[00] 33[11]"};
        for (int k = 0; k < 4; k++) {
            House.due("tree " + k, house.tree(k), due[k]);
        }
        house.word(2, "a");
        House.due("parse()", house.it.parse(), 16);
        House.due("tree 0", house.tree(0), "0[02] 32[00] 0[12] 32[11] 32[22]");
        House.due("tree 7", house.tree(7), "0[02] 33[00] 0[12] 33[11] 33[22]");
        House.due("tree 8", house.tree(8), "0[02] 0[01] 32[00] 32[11] 32[22]");
        House.due("tree 15", house.tree(15), "0[02] 0[01] 33[00] 33[11] 33[22]");
        House rules = House.of("letters a; lexicon Root { a -> end {cat s}; } grammar s -> s : x0.f = p, x1.f = p; grammar s -> s s; "
                + "grammar s -> s : x1.g = p; start s;");
        rules.sentence("a");
        House.due("parse()", rules.it.parse(), 5);
        String[] chains = {"32[00]", "0[00] 32[00]", "0[00] 2[00] 32[00]", "2[00] 32[00]", "2[00] 0[00] 32[00]"};
        for (int k = 0; k < 5; k++) {
            House.due("tree " + k, rules.tree(k), chains[k]);
        }
    }

    private static void theBest() {
        House.asks("THE BEST is the one of the least COST, of these the first.");
        int[][] costs = {{5, 5, 5}, {5, 4, 4}, {4, 5, 4}, {5, 5, 4}, {0, 0, 999}, {999, 998, 0}};
        int[] best = {0, 1, 0, 2, 0, 2};
        for (int i = 0; i < costs.length; i++) {
            StringBuilder s = new StringBuilder("letters a; start s; lexicon Root { a -> end {cat t}; ");
            for (int cost : costs[i]) {
                s.append("a -> end ").append(cost).append(" {cat s}; ");
            }
            House house = House.of(s + "}");
            house.sentence("a");
            House.due("parse()", house.it.parse(), 3);
            for (int k = 0; k < 3; k++) {
                House.due("cost " + k, house.it.reading(k, 0), costs[i][k]);
                House.due("best " + k, house.it.reading(k, 3), k == best[i] ? 1 : 0);
                House.due("node " + k, house.it.node(k, 0, 0), 33 + k);
            }
        }
    }

    private static void chainOrder() {
        House.asks("then by the rule's number; .. then by the first tree");
        House house = House.of("letters a; lexicon Root { a -> end {cat s}; } grammar s -> s : x1.f = p, x0.f = p; grammar t -> s; grammar s -> s s : "
                + "x1.f = q, x2.f = q; start t;");
        house.only("a", "a");
        House.due("parse()", house.it.parse(), 2);
        // the rule 1 upon the rule 0 comes ahead of the rule 1 upon the rule 2
        House.due("the first", house.tree(0), "1[01] 0[01] 2[01] 32[00] 32[11]");
        House.due("the second", house.tree(1), "1[01] 2[01] 32[00] 32[11]");
        House above = House.of("letters a; lexicon Root { a -> end {cat s}; } grammar s -> s s : x1.f = q, x2.f = q; grammar t -> s; grammar s -> s : "
                + "x1.f = p, x0.f = p; start t;");
        above.only("a", "a");
        House.due("parse()", above.it.parse(), 2);
        House.due("the first", above.tree(0), "1[01] 0[01] 32[00] 32[11]");
        House.due("the second", above.tree(1), "1[01] 2[01] 0[01] 32[00] 32[11]");
        House three = House.of("letters a; lexicon Root { a -> end {cat s}; } grammar t -> t; grammar t -> s; grammar s -> s; start t;");
        three.only("a");
        House.due("parse()", three.it.parse(), 4);
        String[] due = {"0[00] 1[00] 32[00]", "0[00] 1[00] 2[00] 32[00]", "1[00] 32[00]", "1[00] 2[00] 32[00]"};
        for (int k = 0; k < 4; k++) {
            House.due("tree " + k, three.tree(k), due[k]);
        }
    }

    private static void theBestOfTheLatest() {
        House.asks("26: 3: 1 if it is THE BEST, else 0.");
        House house = House.of("letters a b c; start s; lexicon Root { a -> end 3 {cat s}; a -> end 2 {cat s}; a -> end 1 {cat s}; b -> end 4 {cat s}; "
                + "b -> end 4 {cat s}; c -> end 9 {cat s}; }");
        String[] words = {"a", "b", "c", "a", "c", "b"};
        int[] readings = {3, 2, 1, 3, 1, 2};
        int[] best = {2, 0, 0, 2, 0, 0};
        for (int i = 0; i < words.length; i++) {
            House.due("parse() of " + words[i], house.only(words[i]).it.parse(), readings[i]);
            for (int k = 0; k < 3; k++) {
                House.due("best", house.it.reading(k, 3), k >= readings[i] ? -1 : k == best[i] ? 1 : 0);
            }
        }
    }

    private static void theLargestCosts() {
        House.asks("the COST of one is the sum of its ENTRIES' (0 where none is told); its COST the sum of its ANALYSES' and its rules'");
        House house = House.of("letters a b; lexicon Root { a -> A 999 {cat t}; b -> A {cat s}; } lexicon A { 0 -> B 999; } lexicon B { 0 -> C 999; } "
                + "lexicon C { 0 -> end 999; } grammar s -> t s 999; grammar s -> s 999 : x1.f = p, x0.f = p; start s;");
        house.only("b");
        House.due("parse()", house.it.parse(), 2);
        House.due("three of 999 and none", house.it.reading(0, 0), 3 * 999);
        House.due("and a rule", house.it.reading(1, 0), 4 * 999);
        House.due("the first is THE BEST", house.it.reading(0, 3), 1);
        house.only("a", "b");
        House.due("parse()", house.it.parse(), 4);
        House.due("all that can be", house.it.reading(3, 0), (4 + 3 + 1 + 1 + 1) * 999);
        int least = 0;
        for (int k = 1; k < 4; k++) {
            least = house.it.reading(k, 0) < house.it.reading(least, 0) ? k : least;
        }
        for (int k = 0; k < 4; k++) {
            House.due("THE BEST", house.it.reading(k, 3), k == least ? 1 : 0);
        }
    }

    private static void theTwelfthRule() {
        House.asks("GRAMMAR rules are numbered from 0 on.");
        House house = House.of("letters a; lexicon Root { a -> end {cat t}; } " + "grammar x -> y;".repeat(11) + "grammar s -> t; start s;");
        house.only("a");
        House.due("parse()", house.it.parse(), 1);
        House.due("its tree", house.tree(0), "11[00] 32[00]");
        House first = House.of("letters a; lexicon Root { a -> end {cat t}; } grammar s -> t;" + "grammar x -> y;".repeat(11) + "start s;");
        first.only("a");
        House.due("parse()", first.it.parse(), 1);
        House.due("its tree", first.tree(0), "0[00] 32[00]");
    }

    /** A house for words of one letter, each a .. n. */
    private static House letters() {
        return House.of("letters a b c d e f g h i j k l m n; lexicon Root { a -> end {cat s}; } start s;");
    }

    private static void parsed(House house, String words, int worked, int kept) {
        house.only(words.split(""));
        int due = words.equals("a") ? 1 : 0;
        House.due("parse() of " + words, house.it.parse(), due);
        House.due("rows worked for " + words, house.it.count(13), worked);
        House.due("rows kept behind " + words, house.it.count(12), kept);
    }

    private static void fortyKept() {
        House.asks("The latest 40 are kept");
        House house = letters();
        parsed(house, "abcdefgh", 36, 36);
        parsed(house, "i", 1, 37);
        parsed(house, "j", 1, 38);
        parsed(house, "k", 1, 39);
        parsed(house, "l", 1, 40);
        House.due("all worked", house.it.count(11), 40);
        parsed(house, "m", 1, 40);
        // the first of all, the row a, has gone; b has not
        parsed(house, "b", 0, 40);
        parsed(house, "a", 1, 40);
        // that put out c, not b, which had come to the end
        parsed(house, "d", 0, 40);
        parsed(house, "b", 0, 40);
        parsed(house, "c", 1, 40);
        House.due("all worked", house.it.count(11), 43);
    }

    private static void keptComesToTheEnd() {
        House.asks("that one comes to the end of those KEPT");
        House house = letters();
        parsed(house, "abcdefgh", 36, 36);
        parsed(house, "a", 0, 36);
        parsed(house, "ijk", 6, 40);
        // 42 were worked: b and c have gone, a has not
        parsed(house, "a", 0, 40);
        parsed(house, "d", 0, 40);
        parsed(house, "b", 1, 40);
        parsed(house, "c", 1, 40);
        parsed(house, "a", 0, 40);
    }

    private static void keptWithoutItsRows() {
        House.asks("is not worked again (whatever became of the rows within it)");
        House house = House.of("letters a b c d e f g h i j k l m n; lexicon Root { a -> end 1 {cat s}; b -> end 2 {cat s}; } "
                + "grammar s -> s s 10; start s;");
        house.sentence("a", "b", "c", "d");
        House.due("parse()", house.it.parse(), 0);
        House.due("10 kept", house.it.count(12), 10);
        house.sentence("e", "f", "g", "h", "i", "j", "k");
        House.due("parse()", house.it.parse(), 0);
        House.due("38 kept", house.it.count(12), 38);
        // four more: the rows a and b go, the row of both does not
        for (String word : new String[] {"l", "m", "n", "aa"}) {
            house.only(word).it.parse();
            House.due("one row", house.it.count(13), 1);
        }
        House.due("40 kept", house.it.count(12), 40);
        house.only("a", "b");
        House.due("parse() again", house.it.parse(), 1);
        House.due("a and b are worked again, the row of both is not", house.it.count(13), 2);
        House.due("its tree", house.tree(0), "0[01] 32[00] 32[11]");
        House.due("its cost", house.it.reading(0, 0), 13);
    }

    private static void manyAreKept() {
        House.asks("The latest 40 are kept (MANY ones, too).");
        House house = House.of(analyses(3));
        house.sentence("a", "a", "a");
        House.due("parse()", house.it.parse(), -2);
        House.due("a, aa and aaa", house.it.count(13), 3);
        House.due("kept", house.it.count(12), 3);
        House.due("parse() again", house.it.parse(), -2);
        House.due("none is worked", house.it.count(13), 0);
        House.due("kept", house.it.count(12), 3);
        House.due("worked since read()", house.it.count(11), 3);
    }

    private static void rowsWithinOneSentence() {
        House.asks("A row whose words, in order, are those of one that is KEPT is not worked again");
        House house = letters();
        parsed(house, "aaaaaaaa", 8, 8);
        parsed(house, "aaaaaaab", 8, 16);
        // ba, aba, bab and abab are new, then baba alone
        parsed(house, "abab", 4, 20);
        parsed(house, "baba", 1, 21);
        parsed(house, "ba", 0, 21);
        parsed(house, "bb", 1, 22);
        // the word ab is another row than the words a and b
        house.it.remove(0);
        house.word(0, "ab");
        House.due("parse() of the word ab", house.it.parse(), 0);
        House.due("rows", house.it.count(13), 1);
        house.word(0, "ba");
        House.due("parse() of the word ba", house.it.parse(), 0);
        House.due("rows", house.it.count(13), 1);
    }

    private static void eightWords() {
        House.asks("THE SENTENCE has words 0 to n - 1 (n at most 8).");
        House house = House.of("letters a b; lexicon Root { a -> end 1 {cat t}; b -> end 2 {cat s}; } grammar s -> t s 10; start s;");
        house.sentence("a", "a", "a", "a", "a", "a", "a", "b");
        House.due("parse()", house.it.parse(), 1);
        House.due("its cost", house.it.reading(0, 0), 79);
        House.due("its nodes", house.it.reading(0, 1), 15);
        House.due("its tree", house.tree(0), "0[07] 32[00] 0[17] 32[11] 0[27] 32[22] 0[37] 32[33] 0[47] 32[44] 0[57] 32[55] 0[67] 32[66] 32[77]");
        House.due("the last node", house.it.node(0, 14, 1), 7);
        House.due("none behind it", house.it.node(0, 15, 1), -1);
        House left = House.of("letters a b; lexicon Root { a -> end 1 {cat t}; b -> end 2 {cat s}; } grammar s -> s t 10; grammar t -> t 100 : "
                + "x1.f = p, x0.f = p; start s;");
        left.sentence("b", "a", "a", "a");
        House.due("parse()", left.it.parse(), 8);
        left.word(4, "a");
        House.due("parse()", left.it.parse(), 16);
        left.sentence("b", "a", "a", "a", "a", "a");
        House.due("32 trees", left.it.parse(), -2);
    }

    private static void readingNumbers() {
        House.asks("26: what 0: its COST, 1: how many nodes it has, 2: the SIZE of its structure, 3: 1 if it is THE BEST, else 0. NONE if there "
                + "is none such.");
        House house = House.of("letters a; lexicon Root { a -> end 7 {cat s}; a -> end 6 {cat s f {g p}}; } start s;");
        for (int k = -1; k <= 1; k++) {
            House.due("reading(" + k + ", 0) before", house.it.reading(k, 0), -1);
        }
        house.sentence("a");
        House.due("no parse() yet", house.it.reading(0, 0), -1);
        House.due("parse()", house.it.parse(), 2);
        int[][] due = {{7, 1, 1, 0}, {6, 1, 3, 1}};
        for (int k = 0; k < 2; k++) {
            for (int what = 0; what < 4; what++) {
                House.due("reading(" + k + ", " + what + ")", house.it.reading(k, what), due[k][what]);
            }
            for (int what : new int[] {-1, 4, 5, Integer.MIN_VALUE, Integer.MAX_VALUE}) {
                House.due("reading(" + k + ", " + what + ")", house.it.reading(k, what), -1);
            }
        }
        for (int k : new int[] {-1, 2, 3, 30, Integer.MIN_VALUE, Integer.MAX_VALUE}) {
            for (int what = 0; what < 4; what++) {
                House.due("reading(" + k + ", " + what + ")", house.it.reading(k, what), -1);
            }
        }
    }

    private static void nodeNumbers() {
        House.asks("27: Node i of it, from the top down: what 0: its rule, or 32 and the number of its ANALYSIS, 1: its first word, 2: its last "
                + "word. NONE if there is none such.");
        House house = House.of("letters a b; lexicon Root { a -> end {cat q}; a -> end {cat t}; b -> end {cat u}; } grammar z -> z; grammar s -> p u; "
                + "grammar p -> t; start s;");
        house.sentence("a", "b");
        House.due("parse()", house.it.parse(), 1);
        int[][] due = {{1, 0, 1}, {2, 0, 0}, {33, 0, 0}, {32, 1, 1}};
        for (int i = 0; i < due.length; i++) {
            for (int what = 0; what < 3; what++) {
                House.due("node(0, " + i + ", " + what + ")", house.it.node(0, i, what), due[i][what]);
            }
            for (int what : new int[] {-1, 3, 4, Integer.MIN_VALUE, Integer.MAX_VALUE}) {
                House.due("node(0, " + i + ", " + what + ")", house.it.node(0, i, what), -1);
            }
        }
        House.due("its nodes", house.it.reading(0, 1), due.length);
        for (int i : new int[] {-1, 4, 5, 100, Integer.MIN_VALUE, Integer.MAX_VALUE}) {
            House.due("node(0, " + i + ", 0)", house.it.node(0, i, 0), -1);
        }
        for (int k : new int[] {-1, 1, 2, 30, Integer.MIN_VALUE, Integer.MAX_VALUE}) {
            House.due("node(" + k + ", 0, 0)", house.it.node(k, 0, 0), -1);
        }
    }

    private static void theSentenceAsItWas() {
        House.asks("26: Of READING k of the latest parse() (the sentence as it was then)");
        House house = House.of("letters a b; lexicon Root { a -> end 1 {cat s}; b -> end 2 {cat s f p}; } grammar s -> s s 10 : x0.g = x2.f; start s;");
        house.sentence("a", "b");
        House.due("parse()", house.it.parse(), 1);
        for (int edit = 0; edit < 6; edit++) {
            switch (edit) {
                case 0 -> house.word(0, "b");
                case 1 -> house.insert(0, "a");
                case 2 -> house.it.remove(2);
                case 3 -> house.it.remove(0);
                case 4 -> house.it.remove(0);
                default -> House.due("parse() without words", house.it.parse(), -1);
            }
            House.due("tree", house.tree(0), "0[01] 32[00] 32[11]");
            House.due("cost", house.it.reading(0, 0), 13);
            House.due("written", house.written(2, 0), "{cat s g p}");
        }
        House.due("a refused text", house.read("start"), 1 + 16 * 5);
        House.due("tree", house.tree(0), "0[01] 32[00] 32[11]");
        house.sentence("b");
        House.due("tree", house.tree(0), "0[01] 32[00] 32[11]");
        House.due("parse()", house.it.parse(), 1);
        House.due("the latest", house.tree(0), "32[00]");
        House.due("a second node", house.it.node(0, 1, 0), -1);
    }
}
