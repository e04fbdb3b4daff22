/** Promises 22 to 27: the sentence's words, parse, readings, nodes. */
public final class SentencesTest {
    public static void main(String[] args) {
        words();
        rules();
        equations();
        sizes();
        chains();
        order();
        best();
        manyPairs();
        manyTrees();
        manyWords();
        kept();
        latest();
        House.close("SentencesTest");
    }

    private static void words() {
        House house = House.of("letters a b A; lexicon Root { a -> end; } start s;");
        House.due("word(1) of none", house.word(1, "a"), -1);
        House.due("the tape is empty", house.it.count(9), 0);
        House.due("word(-1)", house.word(-1, "a"), -1);
        House.due("word(0)", house.word(0, "a"), 1);
        House.due("word(0) again", house.word(0, "b"), 1);
        House.due("word of no word", house.word(1, "A"), -1);
        House.due("word of nothing", house.word(1, ""), -1);
        House.due("word of 17", house.word(1, "a".repeat(17)), -1);
        House.due("word of 16", house.word(1, "a".repeat(16)), 2);
        House.due("insert(0)", house.insert(0, "a"), 3);
        House.due("insert behind all", house.insert(3, "a"), 4);
        House.due("insert(5)", house.insert(5, "a"), -1);
        House.due("insert(-1)", house.insert(-1, "a"), -1);
        House.due("insert of no word", house.insert(0, "ac"), -1);
        for (int i = 4; i < 8; i++) {
            House.due("word(" + i + ")", house.word(i, "a"), i + 1);
        }
        House.due("a 9th", house.word(8, "a"), -1);
        House.due("a 9th by insert", house.insert(0, "a"), -1);
        House.due("word(7) changes", house.word(7, "b"), 8);
        House.due("remove(8)", house.it.remove(8), -1);
        House.due("remove(-1)", house.it.remove(-1), -1);
        House.due("remove(0)", house.it.remove(0), 7);
        for (int n = 6; n >= 0; n--) {
            House.due("remove", house.it.remove(0), n);
        }
        House.due("remove(0) of none", house.it.remove(0), -1);
        House.due("parse() without words", house.it.parse(), -1);
        House bare = House.of("letters a; lexicon Root { a -> end; }");
        bare.sentence("a");
        House.due("parse() without a start", bare.it.parse(), -1);
        House.due("nothing is done", bare.it.count(12), 0);
    }

    private static void rules() {
        House house = House.of("letters a b c; lexicon Root { a -> end 1 {cat d}; b -> end 2 {cat n}; c -> end 3 {cat v}; b -> end 9; }"
                + "grammar p -> d n 10; grammar s -> p q 20; grammar q -> v 30; grammar q -> v p 40; start s;");
        house.sentence("a", "b", "c");
        House.due("parse", house.it.parse(), 2);
        House.due("tree", house.tree(0), "1[02] 0[01] 32[00] 32[11] 2[22] 32[22]");
        House.due("a word without cat", house.tree(1), "1[02] 0[01] 32[00] 33[11] 2[22] 32[22]");
        House.due("cost", house.it.reading(0, 0), 66);
        House.due("nodes", house.it.reading(0, 1), 6);
        House.due("size", house.it.reading(0, 2), 1);
        House.due("best", house.it.reading(0, 3), 1);
        House.due("not best", house.it.reading(1, 3), 0);
        House.due("written", house.written(2, 0), "{cat s}");
        House.due("reading(0, 4)", house.it.reading(0, 4), -1);
        House.due("reading(0, -1)", house.it.reading(0, -1), -1);
        House.due("reading(2, 0)", house.it.reading(2, 0), -1);
        House.due("reading(-1, 0)", house.it.reading(-1, 0), -1);
        House.due("node(0, 6, 0)", house.it.node(0, 6, 0), -1);
        House.due("node(0, -1, 0)", house.it.node(0, -1, 0), -1);
        House.due("node(0, max, 0)", house.it.node(0, Integer.MAX_VALUE, 0), -1);
        House.due("node(0, 0, 3)", house.it.node(0, 0, 3), -1);
        House.due("node(0, 0, -1)", house.it.node(0, 0, -1), -1);
        House.due("node(2, 0, 0)", house.it.node(2, 0, 0), -1);
        House.due("write(2, 2)", house.it.write(2, 2), -1);
        house.sentence("a", "b", "c", "a", "b");
        House.due("parse", house.it.parse(), 4);
        House.due("tree", house.tree(3), "1[04] 0[01] 32[00] 33[11] 3[24] 32[22] 0[34] 32[33] 33[44]");
    }

    /** What comes of one rule upon structures for a and b, or NONE. */
    private static void applied(String a, String b, String equations, String due) {
        House house = House.of("letters a b; lexicon Root { a -> end " + a + "; b -> end " + b + "; } grammar s -> t u"
                + (equations.isEmpty() ? "" : " : " + equations) + "; start s;");
        house.sentence("a", "b");
        house.it.parse();
        House.due("rule : " + equations + " upon " + a + " " + b, house.written(2, 0), due);
    }

    private static void equations() {
        applied("{cat t}", "{cat u}", "", "{cat s}");
        applied("{cat u}", "{cat u}", "", "NONE");
        applied("{}", "{cat {}}", "", "{cat s}");
        applied("{cat {f g}}", "{}", "", "NONE");
        applied("{cat t f p}", "{cat u g q}", "x0.h = x1.f, x0.i = x2.g", "{cat s h p i q}");
        applied("{cat t f p}", "{cat u f p}", "x1.f = x2.f, x0 .f=x1.f", "{cat s f p}");
        applied("{cat t f p}", "{cat u f q}", "x1.f = x2.f", "NONE");
        applied("{cat t f p}", "{cat u}", "x1.f.g = p", "NONE");
        applied("{cat t f p}", "{cat u}", "x1.f = p, x2.f = q", "{cat s}");
        applied("{cat t f p}", "{cat u}", "x1.f = q", "NONE");
        applied("{cat t}", "{cat u}", "x0.f.g.h.i = x1.a.b.c.d", "{cat s f {g {h {i {}}}}}");
        applied("{cat t}", "{cat u}", "x0.f = x1", "{cat s f {cat t}}");
        applied("{cat t}", "{cat u}", "x0.f = x1, x0.g = x1", "{cat s f #1={cat t} g #1}");
        applied("{cat t}", "{cat u}", "x1 = x2", "NONE");
        applied("{cat t}", "{cat u}", "x0 = p", "NONE");
        applied("{cat t f #1 g #1}", "{cat u}", "x1.f = p, x0.g = x1.g", "{cat s g p}");
        applied("{cat t}", "{cat u}", "x0.f = x1.f, x1.f = x2.f, x2.f = p", "{cat s f p}");
        applied("{cat t}", "{cat u}", "x0.f = x0", "NONE");
        applied("{cat t}", "{cat u}", "x1.f = x1", "NONE");
        applied("{cat t}", "{cat u}", "x2.f.g = x2.f", "NONE");
        applied("{cat t}", "{cat u}", "x1.f = x2, x2.f = x1", "NONE");
        applied("{cat t}", "{cat u}", "x0.cat = x1.f", "{cat s}");
        applied("{cat t f s}", "{cat u}", "x0.cat = x1.f", "{cat s}");
        applied("{cat t f t}", "{cat u}", "x0.cat = x1.f", "NONE");
        House twice = House.of("letters a; lexicon Root { a -> end {cat t f {}}; } grammar s -> t t : x1.f = p, x0.g = x2.f; start s;");
        twice.sentence("a", "a").it.parse();
        House.due("copies of one word", twice.written(2, 0), "{cat s g {}}");
    }

    private static void sizes() {
        StringBuilder one = new StringBuilder();
        StringBuilder two = new StringBuilder();
        for (int f = 0; f < 18; f++) {
            one.append(" f").append(f).append(" p");
            two.append(" g").append(f).append(" p");
        }
        // x0 has cat, h and i; x1 and x2 have cat and 18 each: 41 in all, unless x1 lacks one
        String text = "letters a b; lexicon Root { a -> end {cat t" + one + "}; b -> end {cat u" + two + "}; }"
                + "grammar s -> t u : x0.h = x1, x0.i = x2; start s;";
        House over = House.of(text);
        over.sentence("a", "b");
        House.due("41 features", over.it.parse(), 0);
        House rim = House.of(text.replace(" f17 p", ""));
        rim.sentence("a", "b");
        House.due("40 features", rim.it.parse(), 1);
        House.due("their number", rim.it.reading(0, 2), 40);
        House aside = House.of(text.replace("x0.h = x1", "x1.h = x1.cat"));
        aside.sentence("a", "b");
        House.due("only x0 is measured", aside.it.parse(), 1);
        House.due("its size", aside.it.reading(0, 2), 21);
    }

    private static void chains() {
        House house = House.of("letters a; lexicon Root { a -> end {cat s}; } grammar s -> s 1; grammar s -> s 2; start s;");
        house.sentence("a");
        House.due("parse", house.it.parse(), 5);
        String[] due = {"32[00]", "0[00] 32[00]", "0[00] 1[00] 32[00]", "1[00] 32[00]", "1[00] 0[00] 32[00]"};
        for (int k = 0; k < 5; k++) {
            House.due("tree " + k, house.tree(k), due[k]);
        }
        House.due("cost", house.it.reading(4, 0), 3);
        House four = House.of("letters a; lexicon Root { a -> end {cat s}; } grammar s -> s; grammar s -> s; grammar s -> s; start s;");
        four.sentence("a");
        // 1 + 3 + 6 + 6
        House.due("three rules with one tree", four.it.parse(), 16);
        House five = House.of("letters a; lexicon Root { a -> end {cat s}; } grammar s -> s; grammar s -> s; grammar s -> s;"
                + "grammar s -> s; start s;");
        five.sentence("a");
        House.due("four come to 65 trees", five.it.parse(), -2);
        House twice = House.of("letters a; lexicon Root { a -> end {cat s}; } grammar s -> s; grammar s -> s s; start s;");
        twice.sentence("a", "a");
        House.due("a rule again over a shorter row", twice.it.parse(), 8);
        House.due("the first", twice.tree(0), "0[01] 1[01] 32[00] 32[11]");
        House.due("the last", twice.tree(7), "1[01] 0[00] 32[00] 0[11] 32[11]");
    }

    private static void order() {
        House house = House.of("letters a b; lexicon Root { b -> end {cat s}; a -> end {cat s}; a -> end {cat s}; }"
                + "grammar s -> s s 5; grammar s -> s s 1; start s;");
        house.sentence("a", "b", "b");
        House.due("parse", house.it.parse(), 16);
        House.due("0", house.tree(0), "0[02] 32[00] 0[12] 32[11] 32[22]");
        House.due("1", house.tree(1), "0[02] 32[00] 1[12] 32[11] 32[22]");
        House.due("2", house.tree(2), "0[02] 33[00] 0[12] 32[11] 32[22]");
        House.due("4", house.tree(4), "0[02] 0[01] 32[00] 32[11] 32[22]");
        House.due("5", house.tree(5), "0[02] 0[01] 33[00] 32[11] 32[22]");
        House.due("6", house.tree(6), "0[02] 1[01] 32[00] 32[11] 32[22]");
        House.due("8", house.tree(8), "1[02] 32[00] 0[12] 32[11] 32[22]");
    }

    private static void best() {
        House house = House.of("letters a; lexicon Root { a -> end 7 {cat s}; a -> end 3 {cat s}; a -> end 1 {cat t};"
                + " a -> end 3 {cat s}; } start s;");
        house.sentence("a");
        House.due("parse", house.it.parse(), 3);
        int[] due = {0, 1, 0};
        int[] codes = {32, 33, 35};
        for (int k = 0; k < 3; k++) {
            House.due("best " + k, house.it.reading(k, 3), due[k]);
            House.due("code " + k, house.it.node(k, 0, 0), codes[k]);
        }
    }

    private static void manyPairs() {
        String entries = "a -> end {cat t}; ".repeat(7);
        String chains = "grammar t -> t; grammar t -> t;";
        House house = House.of("letters a b; lexicon Root { " + entries + "b -> end {cat u}; } start s;");
        house.sentence("a", "a");
        House.due("49 pairs without a rule", house.it.parse(), 0);
        // 7 analyses under two rules with one tree: 35 trees
        House over = House.of("letters a b; lexicon Root { " + entries + "} " + chains + " start t;");
        over.sentence("a");
        House.due("35 trees", over.it.parse(), -2);
        House four = House.of("letters a b; lexicon Root { " + "a -> end {cat t}; ".repeat(4) + "} " + chains + " start t;");
        four.sentence("a", "a");
        House.due("20 times 20 pairs", four.it.parse(), 0);
        House five = House.of("letters a b; lexicon Root { " + "a -> end {cat t}; ".repeat(4)
                + "b -> end {cat t}; ".repeat(4) + "} lexicon More { b -> end; } " + chains + "grammar u -> t; start t;");
        five.sentence("a", "b");
        House.due("24 times 24 pairs", five.it.parse(), -2);
        House.due("all rows are kept", five.it.count(12), 3);
        // a and b have 20 trees each, b c has 20, and a b has one, or none: 20 * 20 + 1 * 1
        String rim = "letters a b c; lexicon Root { a -> end {cat t k p}; " + "a -> end {cat t k q}; ".repeat(3)
                + "b -> end {cat u k p}; " + "b -> end {cat u k q}; ".repeat(2) + "0 -> More; } "
                + "lexicon More { b -> end {cat u k q}; c -> end {cat v}; } "
                + "grammar t -> t : x0.k = q; grammar t -> t : x0.k = q; grammar u -> u : x0.k = q; grammar u -> u : x0.k = q;"
                + "grammar w -> u v; start w; ";
        House fits = House.of(rim);
        fits.sentence("a", "b", "c");
        House.due("400 pairs", fits.it.parse(), 0);
        House above = House.of(rim + "grammar z -> t u : x1.k = p, x2.k = p;");
        above.sentence("a", "b", "c");
        House.due("401 pairs", above.it.parse(), -2);
        above.it.remove(0);
        House.due("of b c", above.it.parse(), 20);
    }

    private static void manyTrees() {
        House house = House.of("letters a; lexicon Root { a -> end {cat s}; } grammar s -> s s; start s;");
        int[] due = {1, 1, 2, 5, 14, -2, -2, -2};
        for (int n = 0; n < 8; n++) {
            house.word(n, "a");
            House.due("parse of " + (n + 1), house.it.parse(), due[n]);
        }
        House.due("reading of many", house.it.reading(0, 0), -1);
        House.due("node of many", house.it.node(0, 0, 0), -1);
        House.due("write of many", house.it.write(2, 0), -1);
        House.due("rows worked", house.it.count(11), 8);
        House six = House.of("letters a; lexicon Root { " + "a -> end {cat s}; ".repeat(5) + "} grammar t -> s s; "
                + "grammar t -> s s : x0.f = x0; grammar t -> s : x1.f = g; start t;");
        six.sentence("a", "a");
        House.due("25 trees", six.it.parse(), 25);
        House thirty = House.of("letters a; lexicon Root { " + "a -> end {cat s}; ".repeat(6) + "} grammar t -> s; "
                + "grammar t -> s; grammar t -> s; grammar t -> s; start t;");
        thirty.sentence("a");
        House.due("30 trees", thirty.it.parse(), 24);
        House more = House.of("letters a; lexicon Root { " + "a -> end {cat s}; ".repeat(6) + "a -> end {cat t}; } "
                + "grammar t -> s; grammar t -> s; grammar t -> s; grammar t -> s; start t;");
        more.sentence("a");
        House.due("31 trees", more.it.parse(), -2);
        String analyses = "lexicon B { " + "a -> end {cat s}; ".repeat(6) + "} start s; lexicon Root { " + "0 -> B; ".repeat(5);
        House word = House.of("letters a; " + analyses + "}");
        word.sentence("a");
        House.due("30 analyses", word.it.parse(), 30);
        House.due("the last one", word.it.node(29, 0, 0), 61);
        House words = House.of("letters a; " + analyses + "a -> end; }");
        words.sentence("a");
        House.due("31 analyses", words.it.parse(), -2);
    }

    private static void manyWords() {
        String lexicons = "lexicon Root { " + "0 -> B; ".repeat(5) + "b -> end {cat s}; } lexicon B { " + "0 -> C; ".repeat(8)
                + "} lexicon C { " + "0 -> D; ".repeat(8) + "} lexicon D { " + "a -> end; ".repeat(8) + "}";
        House house = House.of("letters a b; " + lexicons + "grammar s -> s s; start s;");
        house.sentence("b", "a", "b");
        House.due("a word that is MANY", house.it.parse(), -2);
        House.due("rows", house.it.count(13), 5);
        house.it.remove(1);
        House.due("without it", house.it.parse(), 1);
        House.due("rows", house.it.count(13), 1);
    }

    private static void kept() {
        House house = House.of("letters a b c d e f g h; lexicon Root { a -> end {cat s}; } start s;");
        house.sentence("a", "b", "c", "d", "e", "f", "g", "h");
        House.due("parse", house.it.parse(), 0);
        House.due("36 rows", house.it.count(13), 36);
        House.due("kept", house.it.count(12), 36);
        house.it.parse();
        House.due("none again", house.it.count(13), 0);
        house.word(7, "a");
        house.it.parse();
        // abcdefga: a is kept; ga, fga .. bcdefga and the whole are new: 7
        House.due("7 rows", house.it.count(13), 7);
        House.due("43 worked", house.it.count(11), 43);
        House.due("40 kept", house.it.count(12), 40);
        house.word(7, "h");
        house.it.parse();
        // of the 8 rows with h three were put out, h, gh and fgh; working these puts out efgh, defgh and so on
        House.due("8 rows again", house.it.count(13), 8);
        House.due("51 worked", house.it.count(11), 51);
        House.due("40 kept", house.it.count(12), 40);
    }

    private static void latest() {
        House house = House.of("letters a b; lexicon Root { a -> end {cat s}; b -> end 4 {cat s}; } grammar s -> s s; start s;");
        house.sentence("a", "b");
        House.due("parse", house.it.parse(), 1);
        house.it.remove(0);
        house.it.remove(0);
        House.due("parse of none", house.it.parse(), -1);
        House.due("the latest stays", house.tree(0), "0[01] 32[00] 32[11]");
        House.due("its cost", house.it.reading(0, 0), 4);
        House.due("count(13) stays", house.it.count(13), 3);
        house.sentence("b");
        House.due("an edit changes no reading", house.it.reading(0, 1), 3);
        House.due("parse", house.it.parse(), 1);
        House.due("the new one", house.tree(0), "32[00]");
        House.due("count(13)", house.it.count(13), 0);
        House.due("written", house.written(2, 0), "{cat s}");
        House none = House.of("letters a b; lexicon Root { a -> end {cat s}; } start s;");
        none.sentence("a", "b");
        House.due("a word without analyses", none.it.parse(), 0);
        House.due("no reading", none.it.reading(0, 0), -1);
    }
}
