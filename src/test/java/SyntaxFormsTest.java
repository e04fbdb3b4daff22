/** Every form that the lines of the grammar of a text allow is read, and counted. */
public final class SyntaxFormsTest {
    public static void main(String[] args) {
        declarationsInAnyOrder();
        declarationsAgain();
        lettersAndPairs();
        rules();
        expressions();
        entries();
        structures();
        grammar();
        equations();
        House.close("SyntaxFormsTest");
    }

    /** What count() answers for 0 to 8, in a row. */
    private static String counts(House house) {
        StringBuilder s = new StringBuilder();
        for (int what = 0; what <= 8; what++) {
            s.append(what > 0 ? " " : "").append(house.it.count(what));
        }
        return s.toString();
    }

    private static void told(String text, String counts) {
        House.due("count() of " + text, counts(House.of(text)), counts);
    }

    private static void declarationsInAnyOrder() {
        House.asks("TEXT: DECL*; a LETTER that no letters tells (anywhere in the text), a SET that no set tells, a GOAL that is no lexicon");
        String[] parts = {"letters a b C;", "pair C:a;", "set Sa = a b;", "rule r C:a => Sa _;", "lexicon Root { aC -> Next; }",
            "lexicon Next { 0 -> end; }", "grammar s -> t;", "start s;"};
        for (int turn = 0; turn < parts.length; turn++) {
            StringBuilder ahead = new StringBuilder();
            StringBuilder back = new StringBuilder();
            for (int k = 0; k < parts.length; k++) {
                ahead.append(parts[(turn + k) % parts.length]).append(' ');
                back.append(parts[(turn + parts.length - k) % parts.length]);
            }
            told(ahead.toString(), "3 3 1 1 2 2 1 1 1");
            told(back.toString(), "3 3 1 1 2 2 1 1 1");
            House house = House.of(back.toString());
            House.due("analyse aa", house.analyse("aa"), 1);
            House.due("the rule holds", house.it.candidate(0, 0), 32);
        }
    }

    private static void declarationsAgain() {
        House.asks("TEXT: DECL*: several DECLS of a kind, and none");
        told("lexicon Root{}", "0 0 0 0 1 0 0 0 0");
        told("lexicon Root{}letters a;letters b C;letters d;", "4 3 0 0 1 0 0 0 0");
        told("letters a B C;pair B:a;lexicon Root{}pair C:a;pair B:0 C:0;", "3 5 0 0 1 0 0 0 0");
        told("set Sa=a;set Sb=a a;letters a;lexicon Root{}", "1 1 2 0 1 0 0 0 0");
        told("lexicon Root{}lexicon A{a->A;a->Root;}lexicon B{}letters a;", "1 1 0 0 3 2 0 0 0");
        told("grammar a->b;lexicon Root{}grammar a->b;grammar a->a a;", "0 0 0 0 1 0 3 0 0");
    }

    private static void lettersAndPairs() {
        House.asks("letters LETTER+ ; pair PAIR+ ; set SET \"=\" LETTER+ ; PAIR: LETTER : LETTER or LETTER : 0");
        told("letters a;lexicon Root{}", "1 1 0 0 1 0 0 0 0");
        told("letters z Z a A;lexicon Root{}", "4 2 0 0 1 0 0 0 0");
        told("letters a b;pair a:b;lexicon Root{}", "2 3 0 0 1 0 0 0 0");
        told("letters a b;pair a:0 b:0 a:b b:a;lexicon Root{}", "2 6 0 0 1 0 0 0 0");
        told("letters A;pair A : 0;lexicon Root{}", "1 1 0 0 1 0 0 0 0");
        told("letters A a;set Sa=A;set a1 = a A a;set ABCDEFGHIJKL=a;lexicon Root{}", "2 1 3 0 1 0 0 0 0");
    }

    private static void rules() {
        House.asks("rule NAME PAIR OP CONTEXT,, ; OP: => or <= or <=> or /<= CONTEXT: RE? _ RE?");
        String head = "letters a b;pair a:b a:0;lexicon Root{}";
        for (String op : new String[] {"=>", "<=", "<=>", "/<="}) {
            for (String pair : new String[] {"a:a", "a:b", "a:0", "b : b"}) {
                told(head + "rule r " + pair + op + "_;", "2 4 0 1 1 0 0 0 0");
                told(head + "rule ab1 " + pair + op + "a _;", "2 4 0 1 1 0 0 0 1");
                told(head + "rule R " + pair + op + "_ b;", "2 4 0 1 1 0 0 0 1");
                told(head + "rule Root " + pair + op + "a _ b, _, b _;", "2 4 0 1 1 0 0 0 3");
            }
        }
        told(head + "rule r a:b=>_;rule q a:b=>_,_,_;rule Q b:b/<=a_a;", "2 4 0 3 1 0 0 0 2");
    }

    private static void expressions() {
        House.asks("RE: ROW (\"|\" ROW)* ROW: PART+ PART: ATOM (\"*\" or \"?\")? ATOM: SIDE or SIDE : SIDE or SIDE : 0 or \"#\" or ( RE )");
        String[] atoms = {"a", "B", "Sa", "@", "#", "a:a", "a:Sa", "a:@", "a:0", "Sa:a", "Sa:Sa", "Sa:@", "Sa:0", "@:a", "@:Sa", "@:@", "@:0"};
        String head = "letters a B;set Sa=a B;lexicon Root{}rule r a:a=>";
        for (String atom : atoms) {
            told(head + atom + "_;", "2 1 1 1 1 0 0 0 1");
            told(head + atom + "*_" + atom + "?;", "2 1 1 1 1 0 0 0 2");
            told(head + "(" + atom + ")_((" + atom + ")*)?;", "2 1 1 1 1 0 0 0 2");
            told(head + atom + " " + atom + "|" + atom + "_" + atom + "|" + atom + "|" + atom + " a;", "2 1 1 1 1 0 0 0 7");
            told(head + "_(" + atom + "|" + atom + "*" + atom + "?)*" + atom + ";", "2 1 1 1 1 0 0 0 4");
        }
    }

    private static void entries() {
        House.asks("ENTRY: DEEP -> GOAL COST? STRUCTURE? ; DEEP: NAME or 0 GOAL: NAME or end COST: NUMBER");
        int n = 0;
        for (String deep : new String[] {"a", "aBa", "aaaaaa", "0"}) {
            for (String goal : new String[] {"end", "Root", "R"}) {
                for (String cost : new String[] {"", " 0", " 7", " 00", " 007", " 999"}) {
                    for (String structure : new String[] {"", "{}", " {f g}"}) {
                        told("letters a B;lexicon Root{" + deep + "->" + goal + cost + structure + ";}lexicon R{}", "2 1 0 0 2 1 0 0 0");
                        n++;
                    }
                }
            }
        }
        House.due("entries", n, 216);
        told("letters a;lexicon Root{a->end;a->end;0->end 3;}", "1 1 0 0 1 3 0 0 0");
    }

    private static void structures() {
        House.asks("STRUCTURE: { FEATURE* } FEATURE: NAME VALUE VALUE: NAME, STRUCTURE, TAG, TAG \"=\" NAME, or TAG \"=\" STRUCTURE");
        String[] values = {"p", "pq1", "{}", "{g p}", "{g{h{}}}", "#1", "#0", "#9", "#1=p", "#2={}", "#3={g p h #4}"};
        String[] others = {"", "f1 q", "f1{}", "f1 {g q}", "f1#1", "f1 #5=q", "f1 #6={g #5}", "ff#7 = {}"};
        for (String value : values) {
            for (String other : others) {
                told("lexicon Root{0->end{f " + value + " " + other + "};}", "0 0 0 0 1 1 0 0 0");
                House.due("lay", new House().lay(0, "{ f " + value + " " + other + "}"), 0);
            }
        }
        House.due("lay", new House().lay(0, "{cat cat Root Root f f}"), 0);
    }

    private static void grammar() {
        House.asks("grammar NAME -> NAME NAME? COST? EQUATIONS? ; start NAME ;");
        for (String second : new String[] {"", " c", " Root"}) {
            for (String cost : new String[] {"", " 0", " 12", " 999"}) {
                for (String equations : new String[] {"", ":x0=x1", " : x0.a = x1.b, x1 = p"}) {
                    told("lexicon Root{}grammar S->b1" + second + cost + equations + ";start S;", "0 0 0 0 1 0 1 1 0");
                }
            }
        }
        told("lexicon Root{}start Root;", "0 0 0 0 1 0 0 1 0");
        told("lexicon Root{}start s;", "0 0 0 0 1 0 0 1 0");
    }

    private static void equations() {
        House.asks("EQUATION: PATH \"=\" PATH or PATH \"=\" NAME PATH: x0, x1 or x2, then (. NAME)*");
        String[] paths = {"x0", "x1", "x2", "x0.a", "x1.cat", "x2.a.b", "x0.a.a.a", "x1.a.b.c.d", "x2 . a1 . Root"};
        for (String left : paths) {
            for (String right : paths) {
                told("lexicon Root{}grammar s->s s:" + left + "=" + right + ";", "0 0 0 0 1 0 1 0 0");
            }
            told("lexicon Root{}grammar s->s s:" + left + "=p;", "0 0 0 0 1 0 1 0 0");
            told("lexicon Root{}grammar s->s s:" + left + "=x," + left + "=x1.x;", "0 0 0 0 1 0 1 0 0");
        }
    }
}
