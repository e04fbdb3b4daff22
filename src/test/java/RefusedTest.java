import java.util.function.ToIntFunction;

/**
 * What is refused changes nothing (but uses up the tape where it's told), and what only asks changes nothing at all: of two
 * houses that had the same calls one is asked so, and then both must answer alike.
 */
public final class RefusedTest {
    private static final String TEXT = "letters a b c d e f g h A; pair A:a A:0 b:c; set Sa = a b; rule r A:a => b _; rule q A:0 /<= _ #;"
            + "lexicon Root { a -> end 3 {cat s f #1 g #1}; b -> end 2 {cat t}; bA -> Next {cat s}; c -> end {cat s}; ab -> end {cat s};"
            + "ab -> end 1 {cat t}; } lexicon Next { 0 -> end 5; a -> end {n p}; }"
            + "grammar s -> s t 4 : x0.f = x1.f; grammar s -> s s 1; grammar t -> s; start s;";
    private static final int[] ODD = {Integer.MIN_VALUE, -1, 0, 1, 2, 4, 8, 14, 21, Integer.MAX_VALUE};

    public static void main(String[] args) {
        fullHouse();
        tape();
        texts();
        forms();
        words();
        slots();
        unified();
        sentences();
        ninthWord();
        parseWithoutWords();
        parseWithoutStart();
        written();
        questions();
        readingAgain();
        House.close("RefusedTest");
    }

    /** A house in which every call has left something; on the tape stands the WORD ab. */
    private static House full() {
        House house = House.of(TEXT);
        house.lay(0, "{f #1 g #1 h p}");
        house.lay(1, "{f {i q}}");
        house.lay(2, "{h q}");
        house.lay(3, "{f #1={i #2} g #2}");
        house.it.unify(0, 1, 4);
        house.holds("bbAa");
        house.forms("bA");
        house.analyse("ba");
        house.near("ab");
        house.only("a", "b", "c", "d", "e", "f", "g", "h").it.parse();
        for (String word : new String[] {"ab", "ba", "aa", "bb"}) {
            house.only(word).it.parse();
        }
        house.only("a", "a").it.parse();
        house.it.write(0, 4);
        return house.tell("ab");
    }

    private static void fullHouse() {
        House.asks("what the views below look at is there");
        House house = full();
        House.due("count(9)", house.it.count(9), 2);
        House.due("count(12)", house.it.count(12), 40);
        House.due("count(13)", house.it.count(13), 1);
        House.due("rule(0)", house.it.rule(0), 1);
        House.due("form", house.form(0), "ba");
        House.due("candidates()", house.it.candidates(), 2);
        House.due("nearby", house.nearby(0), "a");
        House.due("cost", house.it.reading(0, 0), 10);
        House.due("best", house.it.reading(1, 3), 1);
        House.due("octet", house.it.octet(4), '1');
    }

    private static final int VIEWS = 12;

    /** Some of all that a house answers; each view is taken of a house of its own, to keep within an object's 512 calls. */
    private static String view(int v, House house) {
        StringBuilder s = new StringBuilder();
        SentenceHouse x = house.it;
        switch (v) {
            case 0 -> counts(x, s);
            case 1 -> candidates(x, s);
            case 2 -> spellings(house, s);
            case 3 -> octets(x, s);
            case 4 -> readings(house, s);
            case 5 -> desk(house, s, 0);
            case 6 -> desk(house, s, 4);
            case 7 -> structures(house, s);
            case 8 -> comparisons(x, s);
            case 9 -> theTape(house, s);
            case 10 -> keptRows(house, s);
            default -> theText(house, s);
        }
        return s.toString();
    }

    private static void add(StringBuilder s, long answer) {
        s.append(answer).append(' ');
    }

    private static void counts(SentenceHouse x, StringBuilder s) {
        for (int what = 0; what <= 13; what++) {
            add(s, x.count(what));
        }
        for (int r = 0; r < 3; r++) {
            add(s, x.rule(r));
        }
    }

    private static void candidates(SentenceHouse x, StringBuilder s) {
        add(s, x.candidates());
        for (int c = 0; c < 4; c++) {
            for (int what = 0; what <= 8; what++) {
                add(s, x.candidate(c, what));
            }
            for (int i = 0; i < 4; i++) {
                add(s, x.way(c, i));
            }
        }
    }

    private static void spellings(House house, StringBuilder s) {
        for (int k = 0; k < 8; k++) {
            s.append(house.form(k)).append(' ').append(house.nearby(k)).append(' ');
            add(s, house.it.form(k, 0));
            add(s, house.it.nearby(k, 0));
        }
    }

    private static void octets(SentenceHouse x, StringBuilder s) {
        for (int i = 0; i < 60; i++) {
            add(s, x.octet(i));
        }
    }

    private static void readings(House house, StringBuilder s) {
        for (int k = 0; k < 4; k++) {
            for (int what = 0; what < 4; what++) {
                add(s, house.it.reading(k, what));
            }
            s.append(house.tree(k)).append(' ');
        }
    }

    private static void desk(House house, StringBuilder s, int from) {
        for (int slot = from; slot < from + 4; slot++) {
            s.append(house.written(0, slot)).append(' ');
        }
    }

    private static void structures(House house, StringBuilder s) {
        for (int k = 0; k < 3; k++) {
            s.append(house.written(1, k)).append(' ').append(house.written(2, k)).append(' ');
        }
    }

    private static void comparisons(SentenceHouse x, StringBuilder s) {
        for (int a = 0; a < 8; a++) {
            for (int b = 0; b < 8; b++) {
                add(s, x.above(a, b));
            }
        }
        for (int a = 0; a < 5; a++) {
            add(s, x.unify(a, 0, 7));
        }
    }

    private static void theTape(House house, StringBuilder s) {
        add(s, house.it.count(9));
        add(s, house.tell("b").it.analyse());
        add(s, house.it.candidates());
        add(s, house.it.way(0, 0));
        add(s, house.it.candidate(0, 6));
    }

    /** Rows that were kept are not worked, and new ones put out the oldest. */
    private static void keptRows(House house, StringBuilder s) {
        house.it.back(house.it.count(9));
        add(s, house.it.parse());
        for (int what = 10; what <= 13; what++) {
            add(s, house.it.count(what));
        }
        for (String word : new String[] {"cc", "b", "dd", "a", "c", "ee", "d", "e", "ba", "f", "g", "h", "ff", "bb"}) {
            add(s, house.only(word).it.parse());
            add(s, house.it.count(13));
        }
        add(s, house.only("a", "b", "c").it.parse());
        add(s, house.it.count(13));
        add(s, house.it.count(11));
    }

    private static void theText(House house, StringBuilder s) {
        house.it.back(house.it.count(9));
        add(s, house.it.differ(0, 1));
        add(s, house.it.differ(1, 0));
        add(s, house.holds("aaAa"));
        add(s, house.forms("bAb"));
        add(s, house.analyse("caa"));
        add(s, house.analyse("ab"));
        add(s, house.near("c"));
        s.append(house.written(1, 1));
    }

    /** A deed upon a full house that must answer so, and change nothing but, perhaps, use up the tape. */
    private static void unchanged(String deed, ToIntFunction<House> refused, int due, boolean tapeGoes) {
        for (int v = 0; v < VIEWS; v++) {
            House plain = full();
            House other = full();
            House.due(deed, refused.applyAsInt(other), due);
            if (tapeGoes) {
                House.due("the tape behind " + deed, other.it.count(9), 0);
                plain.it.back(2);
            }
            House.due("view " + v + " behind " + deed, view(v, other), view(v, plain));
        }
    }

    private static int cleared(House house, String s, ToIntFunction<House> deed) {
        house.it.back(house.it.count(9));
        return deed.applyAsInt(house.tell(s));
    }

    private static void tape() {
        House.asks("2: NONE, and nothing comes / 3: NONE, and none go");
        unchanged("back(3) of 2", h -> h.it.back(3), -1, false);
        unchanged("back(-1)", h -> h.it.back(-1), -1, false);
        unchanged("feed upon 5,000", h -> {
            for (int i = 0; i < 249; i++) {
                h.it.feed(0, 0, 0, 0, 0);
            }
            int answer = h.it.feed(0x61616161, 0x61616161, 0x61616161, 0x61616161, 0x61616161);
            h.it.back(4980);
            return answer;
        }, -1, false);
    }

    private static void texts() {
        House.asks("4: or its FAULT and 16 times its place (nothing is changed then but the tape)");
        String root = "lexicon Root { z -> end; } letters z;";
        String[] wrong = {"!", "letters z", root + "rule r z:z => _,_,_,^_;", root + "letters ^z;", root + "pair ^q:z;", root + "pair ^z:z;",
            root + "lexicon L { z -> end ^{f #1={f #1}}; }", "letters z; start z; lexicon L { z -> L; }^"};
        int[] faults = {1, 1, 2, 3, 4, 5, 6, 7};
        for (int i = 0; i < wrong.length; i++) {
            int place = wrong[i].indexOf('^');
            String text = wrong[i].replace("^", "");
            int at = i == 0 ? 0 : place < 0 ? text.length() : place;
            unchanged("read() of " + text, h -> cleared(h, text, g -> g.it.read()), faults[i] + 16 * at, true);
        }
        unchanged("read() of a WORD", h -> h.it.read(), 1, true);
    }

    private static void forms() {
        House.asks("6, 9: it is empty then: .. NONE");
        unchanged("holds() of no pair", h -> h.it.holds(), -1, true);
        unchanged("holds() of an odd number", h -> cleared(h, "aabbA", g -> g.it.holds()), -1, true);
        unchanged("holds() of 34 bytes", h -> cleared(h, "aa".repeat(17), g -> g.it.holds()), -1, true);
        unchanged("holds() of a wrong last pair", h -> cleared(h, "aabbAaAb", g -> g.it.holds()), -1, true);
        unchanged("forms() of nothing", h -> cleared(h, "", g -> g.it.forms()), -1, true);
        unchanged("forms() of 9 letters", h -> cleared(h, "aaaaaaaaa", g -> g.it.forms()), -1, true);
        unchanged("forms() of no LETTER", h -> h.tell("z").it.forms(), -1, true);
    }

    private static void words() {
        House.asks("11, 15: it is empty then: .. NONE");
        unchanged("analyse() of nothing", h -> cleared(h, "", g -> g.it.analyse()), -1, true);
        unchanged("analyse() of a capital", h -> h.tell("A").it.analyse(), -1, true);
        unchanged("analyse() of no LETTER", h -> h.tell("z").it.analyse(), -1, true);
        unchanged("analyse() of 17 letters", h -> cleared(h, "a".repeat(17), g -> g.it.analyse()), -1, true);
        unchanged("near() of nothing", h -> cleared(h, "", g -> g.it.near()), -1, true);
        unchanged("near() of a capital", h -> h.tell("A").it.near(), -1, true);
        unchanged("near() of 9 letters", h -> cleared(h, "aaaaaaaaa", g -> g.it.near()), -1, true);
    }

    private static void slots() {
        House.asks("17: NONE, and the tape stays: no such slot; or the FAULT (the slot stays)");
        unchanged("lay(8)", h -> h.it.lay(8), -1, false);
        unchanged("lay(-1)", h -> h.it.lay(-1), -1, false);
        unchanged("lay(0) of a WORD", h -> h.it.lay(0), 1, true);
        unchanged("lay(0) of SYNTAX", h -> cleared(h, "{f p", g -> g.it.lay(0)), 1 + 16 * 4, true);
        unchanged("lay(3) of LIMIT", h -> cleared(h, "{f #10}", g -> g.it.lay(3)), 2 + 16 * 3, true);
        unchanged("lay(4) of TWICE", h -> cleared(h, "{f p f q}", g -> g.it.lay(4)), 3 + 16 * 5, true);
        unchanged("lay(7) of a RING", h -> cleared(h, " {f #1={f #1}}", g -> g.it.lay(7)), 6 + 16, true);
    }

    private static void unified() {
        House.asks("18: NONE, and nothing is changed, if they can't be, or one is no slot.");
        unchanged("unify(8, 0, 0)", h -> h.it.unify(8, 0, 0), -1, false);
        unchanged("unify(0, -1, 0)", h -> h.it.unify(0, -1, 0), -1, false);
        unchanged("unify(0, 1, 8)", h -> h.it.unify(0, 1, 8), -1, false);
        unchanged("unify(0, 1, -1)", h -> h.it.unify(0, 1, -1), -1, false);
        for (int c = 0; c < 8; c++) {
            int slot = c;
            unchanged("unify(0, 2, " + c + ") of two ATOMS", h -> h.it.unify(0, 2, slot), -1, false);
            unchanged("unify(3, 0, " + c + ") of a ring", h -> h.it.unify(3, 0, slot), -1, false);
        }
    }

    private static void sentences() {
        House.asks("22, 23: it is empty then: .. NONE: it is no WORD, no such i, or a 9th one. 24: NONE if there is none such.");
        unchanged("word(3) of 2", h -> h.it.word(3), -1, true);
        unchanged("word(-1)", h -> h.it.word(-1), -1, true);
        unchanged("word(0) of no WORD", h -> h.tell("A").it.word(0), -1, true);
        unchanged("word(2) of nothing", h -> cleared(h, "", g -> g.it.word(2)), -1, true);
        unchanged("insert(3) of 2", h -> h.it.insert(3), -1, true);
        unchanged("insert(-1)", h -> h.it.insert(-1), -1, true);
        unchanged("insert(0) of no WORD", h -> h.tell("z").it.insert(0), -1, true);
        unchanged("insert(2) of 17 letters", h -> cleared(h, "a".repeat(17), g -> g.it.insert(2)), -1, true);
        unchanged("remove(2) of 2", h -> h.it.remove(2), -1, false);
        unchanged("remove(-1)", h -> h.it.remove(-1), -1, false);
    }

    /** What eight words, the ninth refused, are read to: as if it had not come. */
    private static void ninthWord() {
        House.asks("22, 23: or a 9th one.");
        for (int deed = 0; deed < 3; deed++) {
            House plain = House.of(TEXT);
            House other = House.of(TEXT);
            String[] words = {"a", "b", "a", "d", "e", "a", "b", "ab"};
            plain.only(words);
            other.only(words);
            House.due("a 9th one", deed == 0 ? other.word(8, "a") : other.insert(deed == 1 ? 0 : 8, "a"), -1);
            House.due("count(10)", other.it.count(10), 8);
            House.due("parse()", other.it.parse(), plain.it.parse());
            House.due("rows worked", other.it.count(13), plain.it.count(13));
            plain.it.remove(3);
            plain.it.remove(3);
            other.it.remove(3);
            other.it.remove(3);
            House.due("parse() of the rest", other.it.parse(), plain.it.parse());
            House.due("tree", other.tree(0), plain.tree(0));
            House.due("rows worked", other.it.count(13), plain.it.count(13));
        }
    }

    private static void parseWithoutWords() {
        House.asks("25: NONE, and nothing is done, without words");
        for (int v = 0; v < VIEWS; v++) {
            House plain = full();
            House other = full();
            plain.only();
            other.only();
            House.due("parse()", other.it.parse(), -1);
            House.due("view " + v, view(v, other), view(v, plain));
        }
    }

    private static void parseWithoutStart() {
        House.asks("25: NONE, and nothing is done, without .. a start.");
        for (int v = 0; v < VIEWS; v++) {
            House plain = full();
            House other = full();
            String text = TEXT.replace("start s;", "");
            for (House house : new House[] {plain, other}) {
                House.due("read()", cleared(house, text, h -> h.it.read()), 0);
                house.only("a", "b");
            }
            House.due("parse()", other.it.parse(), -1);
            House.due("view " + v, view(v, other), view(v, plain));
        }
    }

    private static void written() {
        House.asks("20: NONE, and what was written stays, if there is none such.");
        int[][] wrong = {{0, -1}, {0, 8}, {1, -1}, {1, 2}, {2, -1}, {2, 2}, {3, 0}, {-1, 0}};
        for (int[] w : wrong) {
            unchanged("write(" + w[0] + ", " + w[1] + ")", h -> h.it.write(w[0], w[1]), -1, false);
        }
    }

    /** Every call that only asks, with all kinds of numbers; none of them uses the tape. */
    private static int ask(House house, int which) {
        SentenceHouse x = house.it;
        for (int a : ODD) {
            for (int b : ODD) {
                switch (which) {
                    case 0 -> x.form(a, b);
                    case 1 -> x.way(a, b);
                    case 2 -> x.candidate(a, b);
                    case 3 -> x.nearby(a, b);
                    case 4 -> x.above(a, b);
                    case 5 -> x.reading(a, b);
                    case 6 -> x.node(a < 0 ? a : 0, a, b);
                    case 7 -> x.node(b, 0, a);
                    default -> {
                        if (b == 0) {
                            x.count(a);
                            x.rule(a);
                            x.octet(a);
                            x.differ(a, 1);
                            x.differ(0, a);
                            x.candidates();
                        }
                    }
                }
            }
        }
        return 0;
    }

    private static void questions() {
        House.asks("5, 7, 8, 10, 12, 13, 14, 16, 19, 21, 26, 27: what only asks");
        for (int which = 0; which <= 8; which++) {
            int w = which;
            unchanged("questions " + which, h -> ask(h, w), 0, false);
        }
    }

    private static void readingAgain() {
        House.asks("4: 0: what was told before is gone: there is no sentence, nothing is kept, nothing was analysed, made or read. "
                + "(The desk stays.)");
        for (int v = 0; v < VIEWS; v++) {
            House fresh = House.of(TEXT);
            fresh.lay(0, "{f #1 g #1 h p}");
            fresh.lay(1, "{f {i q}}");
            fresh.lay(2, "{h q}");
            fresh.lay(3, "{f #1={i #2} g #2}");
            fresh.it.unify(0, 1, 4);
            fresh.it.write(0, 4);
            House again = full();
            House.due("read()", cleared(again, TEXT, h -> h.it.read()), 0);
            House.due("view " + v + " behind read()", view(v, again), view(v, fresh));
        }
    }
}
