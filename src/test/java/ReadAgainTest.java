/** Promise 4: of texts read one behind another on one object the last alone counts: it answers as a new object does. */
public final class ReadAgainTest {
    private static final String[] TEXTS = {
        // much of everything
        "letters a b c A; pair A:a A:b A:0 b:0; set Sa = a; set Sb = b c; rule r A:a <=> # _, b c | c a _, a:@ (b | Sa)* _ c? #; "
            + "rule q A:0 /<= _ Sb; rule p b:0 => Sa _, # (a b)* _;"
            + "lexicon Root { a -> Next 1 {cat s f #1 g #1}; bA -> end 2 {cat t h {i p}}; c -> Next {cat v}; Ab -> Next 7 {cat s}; }"
            + "lexicon Next { 0 -> end 5; b -> Next 3 {f p}; c -> end {k #1 l #1}; }"
            + "grammar s -> s t 4 : x0.f = x1.f, x0.g.h = x2.h, x2.h.j = q; grammar t -> s 1 : x0.h.i = x1.g; grammar s -> v s : x1.a.b.c.d = x2;"
            + "start s;",
        // little
        "letters b a; lexicon Root { a -> end; b -> end; ab -> end {cat s}; }",
        // the same names for other things
        "lexicon Next { b -> end {cat t}; a -> end {cat s}; } lexicon Root { 0 -> Next; a -> Root; c -> end {cat s}; } letters A c b a; pair A:c c:0; "
            + "set Sb = a; rule r A:c => _ a c, a b _ b c, c c b _; rule q c:0 /<= # a c _ b a; grammar s -> s t; grammar s -> t s 9; "
            + "grammar s -> s s : x0 = x2; start s;",
        // rules with one tree, paths without names
        "letters a b c; pair a:b a:c b:a; rule p a:b => _ a | b | c; rule r a:c <= # b* _;"
            + "lexicon Root { a -> end {cat s f p}; b -> end {cat t f {}}; c -> end {cat {}}; } grammar s -> s : x0 = x1; grammar t -> s : x0.f = x1.f; "
            + "grammar s -> t t : x0 = x0, x1 = x2; start s;",
        // nothing
        "lexicon Root { }",
    };

    public static void main(String[] args) {
        String[][] due = new String[TEXTS.length][PARTS];
        for (int t = 0; t < TEXTS.length; t++) {
            for (int part = 0; part < PARTS; part++) {
                due[t][part] = answers(House.of(TEXTS[t]), part);
            }
        }
        allDiffer(due);
        House.asks("4: 0: what was told before is gone: there is no sentence, nothing is kept, nothing was analysed, made or read.");
        for (int a = 0; a < TEXTS.length; a++) {
            for (int b = 0; b < TEXTS.length; b++) {
                for (int c = 0; c < TEXTS.length; c++) {
                    for (int part = 0; part < PARTS; part++) {
                        String got = answers(used(a, b, c), part);
                        House.due("part " + part + " of text " + c + " behind " + a + " and " + b, got, due[c][part]);
                    }
                }
            }
        }
        faultsBetween(due);
        faultsBehind();
        House.close("ReadAgainTest");
    }

    /** The answers would show a text for another one. */
    private static void allDiffer(String[][] due) {
        for (int a = 0; a < TEXTS.length; a++) {
            for (int b = 0; b < a; b++) {
                String one = String.join("", due[a]);
                House.due("texts " + a + " and " + b + " answer alike", one.equals(String.join("", due[b])) ? 1 : 0, 0);
            }
        }
    }

    /** An object that has read three texts, with some calls behind the first two. */
    private static House used(int a, int b, int c) {
        House house = House.of(TEXTS[a]);
        touch(house);
        House.due("read()", house.read(TEXTS[b]), 0);
        touch(house);
        House.due("read()", house.read(TEXTS[c]), 0);
        return house;
    }

    private static void touch(House house) {
        house.holds("aabb");
        house.forms("ab");
        house.analyse("ab");
        house.near("ab");
        house.sentence("a", "b").it.parse();
        house.it.differ(0, 1);
    }

    private static void faultsBetween(String[][] due) {
        House.asks("4: or its FAULT and 16 times its place (nothing is changed then but the tape)");
        String[] faulty = {TEXTS[0] + ";", TEXTS[0] + "letters a;", TEXTS[0].replace("Root", "Rood"), TEXTS[2] + "lexicon L { a -> No; }"};
        for (int t = 0; t < TEXTS.length; t++) {
            for (String text : faulty) {
                for (int part = 0; part < PARTS; part++) {
                    House house = House.of(TEXTS[t]);
                    House.due("a fault", house.read(text) == 0 ? 1 : 0, 0);
                    House.due("part " + part + " of text " + t + " behind a fault", answers(house, part), due[t][part]);
                }
            }
        }
    }

    /** What older texts told is told no more: the same faults as on a new object. */
    private static void faultsBehind() {
        House.asks("4: 0: what was told before is gone: a text is read for itself alone");
        String[] faulty = {"", "letters a;", "lexicon Next { }", "lexicon Root { a -> end; }", "lexicon Root { 0 -> Next; }", "lexicon Root { } set Sb = a;",
            "lexicon Root { } pair a:b;", "letters a; lexicon Root { } rule r a:a => Sb _;", "letters a b A; lexicon Root { } rule r A:a => _;",
            "lexicon Root { } rule r a:a => _;"};
        for (int a = 0; a < TEXTS.length; a++) {
            for (int b = 0; b < TEXTS.length; b++) {
                House house = House.of(TEXTS[a]);
                House.due("read()", house.read(TEXTS[b]), 0);
                for (String text : faulty) {
                    int fault = House.fault(text);
                    House.due("a fault of " + text, fault > 0 ? 1 : 0, 1);
                    House.due(text + " behind " + a + " and " + b, house.read(text), fault);
                }
            }
        }
        for (String once : new String[] {"start s;", "set Sa = a;", "rule r a:a => _;", "letters b;", "pair B:a;", "lexicon Next { }"}) {
            String text = "letters a B; lexicon Root { } " + once;
            House house = House.of(text);
            House.due("read() again", house.read(text), 0);
            House.due("and again", house.read(text), 0);
        }
    }

    private static final int PARTS = 7;

    private static String answers(House house, int part) {
        StringBuilder s = new StringBuilder();
        switch (part) {
            case 0 -> rules(house, s);
            case 1 -> forms(house, s);
            case 2 -> words(house, s, "a", "b", "c", "ab");
            case 3 -> words(house, s, "ba", "ac", "abc", "bb");
            case 4 -> near(house, s);
            case 5 -> sentences(house, s, "a", "b", "c", "a b");
            default -> sentences(house, s, "ab a b", "c a b", "a a");
        }
        return s.toString();
    }

    private static void add(StringBuilder s, long answer) {
        s.append(answer).append(' ');
    }

    private static void rules(House house, StringBuilder s) {
        for (int what = 0; what <= 13; what++) {
            add(s, house.it.count(what));
        }
        for (int r = 0; r < 4; r++) {
            add(s, house.it.rule(r));
            for (int q = 0; q < 4; q++) {
                add(s, house.it.differ(r, q));
            }
        }
        for (String pairs : new String[] {"Aa", "Ab", "A0", "bbAa", "bbccAa", "aabbAacc", "aaAabb", "aab0", "aabbaab0", "abcc", "aaab", "Ac", "ac",
            "Acaacc", "Acaa", "Accc", "aabbAcbbcc", "bbAcbbcc", "aaAcbbcc", "aabbAcbb", "ccbbAc", "ccccbbAc", "aaccc0bbaa", "aaaaccc0bbaa",
            "ccc0bbaa", "aaccc0bb", "aaccc0aa"}) {
            add(s, house.holds(pairs));
            add(s, house.it.rule(0));
            add(s, house.it.rule(1));
            add(s, house.it.rule(2));
        }
    }

    private static void forms(House house, StringBuilder s) {
        for (String deep : new String[] {"a", "bA", "AbA", "abc", "caA"}) {
            add(s, house.forms(deep));
            s.append(house.form(0)).append(' ').append(house.form(1)).append(' ');
        }
    }

    private static void words(House house, StringBuilder s, String... words) {
        add(s, house.it.candidates());
        for (String word : words) {
            long n = house.analyse(word);
            add(s, n);
            add(s, house.it.candidates());
            for (int k = 0; k < 2; k++) {
                add(s, house.it.way(k, 0));
                add(s, house.it.way(k, 1));
                add(s, house.it.candidate(k, 0));
                add(s, house.it.candidate(k, 5));
                add(s, house.it.candidate(k, 6));
            }
            if (n > 0) {
                s.append(house.written(1, 0)).append(' ');
            }
        }
    }

    private static void near(House house, StringBuilder s) {
        add(s, house.it.nearby(0, 0));
        for (String word : new String[] {"a", "bb", "abc"}) {
            long n = house.near(word);
            add(s, n);
            for (int k = 0; k < Math.min(n, 9); k++) {
                s.append(house.nearby(k)).append(' ');
            }
        }
    }

    private static void sentences(House house, StringBuilder s, String... all) {
        add(s, house.it.reading(0, 0));
        add(s, house.it.node(0, 0, 0));
        add(s, house.it.parse());
        for (String sentence : all) {
            long n = house.only(sentence.split(" ")).it.parse();
            add(s, n);
            add(s, house.it.count(10));
            add(s, house.it.count(11));
            add(s, house.it.count(13));
            for (int k = 0; k < Math.min(n, 2); k++) {
                add(s, house.it.reading(k, 0));
                add(s, house.it.reading(k, 3));
                s.append(house.tree(k)).append(' ');
            }
            if (n > 0) {
                s.append(house.written(2, 0)).append(' ');
            }
        }
    }
}
