/** The example of README.md, call by call. */
public final class UseTest {
    private static final String TEXT = """
            letters a c e i k s t w y E ;              % small ones are deep and written, capitals deep alone
            pair E:e E:0 y:i ;                         % beside a:a, c:c, ..
            rule soft  y:i <=> _ E:@ ;                 % y is written i ahead of E, and nowhere else
            rule glide E:e <=> y:i _ ;                 % E is written e behind such a y, else not at all
            lexicon Root { cat -> Num {cat n}; sky -> Num {cat n}; wait -> Per 1 {cat v}; }
            lexicon Num  { 0 -> end {num sg}; Es -> end 2 {num pl}; }
            lexicon Per  { 0 -> end {num pl}; Es -> end {num sg}; }
            grammar s -> n v 5 : x1.num = x2.num, x0.num = x1.num ;
            start s ;
            """;

    public static void main(String[] args) {
        House house = new House();
        House.due("read()", house.read(TEXT), 0);
        forms(house);
        words(house);
        sentence(house);
        desk(house);
        House.close("UseTest");
    }

    private static void forms(House house) {
        House.due("forms() of skyEs", house.forms("skyEs"), 1);
        House.due("form(0)", house.form(0), "skies");
        House.due("holds() of cat", house.holds("ccaatt"), 2);
        House.due("holds() of s k y:y E:0", house.holds("sskkyyE0"), 1);
        House.due("rule(0)", house.it.rule(0), 0);
        House.due("rule(1)", house.it.rule(1), 1);
    }

    private static void words(House house) {
        House.due("analyse() of skies", house.analyse("skies"), 1);
        House.due("way(0, 0)", house.it.way(0, 0), 1);
        House.due("way(0, 1)", house.it.way(0, 1), 4);
        House.due("write(1, 0)", house.written(1, 0), "{cat n num pl}");
        House.due("near() of cas", house.near("cas"), 2);
        House.due("nearby(0)", house.nearby(0), "cat");
        House.due("nearby(1)", house.nearby(1), "cats");
    }

    private static void sentence(House house) {
        House.due("word(0)", house.word(0, "cat"), 1);
        House.due("word(1)", house.word(1, "wait"), 2);
        House.due("parse() of cat wait", house.it.parse(), 0);
        House.due("word(0)", house.word(0, "cats"), 2);
        House.due("parse() of cats wait", house.it.parse(), 1);
        House.due("reading(0, 0)", house.it.reading(0, 0), 8);
        House.due("tree", house.tree(0), "0[01] 32[00] 32[11]");
        House.due("write(2, 0)", house.written(2, 0), "{cat s num pl}");
        House.due("count(13)", house.it.count(13), 2);
    }

    private static void desk(House house) {
        House.due("lay(0)", house.lay(0, "{subj #1={num sg} pred #1}"), 0);
        House.due("lay(1)", house.lay(1, "{subj {per third}}"), 0);
        House.due("unify(0, 1, 2)", house.it.unify(0, 1, 2), 4);
        House.due("above(1, 2)", house.it.above(1, 2), 1);
        House.due("write(0, 2)", house.written(0, 2), "{pred #1={num sg per third} subj #1}");
    }
}
