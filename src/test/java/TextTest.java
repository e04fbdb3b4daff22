/** Promises 1 to 5: a new object, the tape, reading a text and its faults, counting. */
public final class TextTest {
    private static final String ROOT = "lexicon Root { }";

    public static void main(String[] args) {
        newObject();
        tape();
        tokens();
        syntax();
        limitsOfLetters();
        limitsOfRules();
        limitsOfLexicons();
        limitsOfStructures();
        limitsOfGrammar();
        twice();
        unknown();
        kind();
        ringAndRoot();
        rounds();
        whatReadForgets();
        counts();
        House.close("TextTest");
    }

    private static void newObject() {
        SentenceHouse x = new SentenceHouse();
        for (int what = 0; what <= 13; what++) {
            House.due("count(" + what + ") of a new object", x.count(what), 0);
        }
        House.due("candidates()", x.candidates(), 0);
        House.due("parse()", x.parse(), -1);
        House.due("octet(0)", x.octet(0), -1);
        House.due("rule(0)", x.rule(0), -1);
        House.due("holds() of nothing", x.holds(), 0);
        House.due("rule(0) without rules", x.rule(0), -1);
        House house = new House();
        for (int slot = 0; slot < 8; slot++) {
            House.due("slot " + slot, house.written(0, slot), "{}");
        }
        House.due("NONE", SentenceHouse.NONE, -1);
        House.due("MANY", SentenceHouse.MANY, -2);
    }

    private static void tape() {
        SentenceHouse x = new SentenceHouse();
        for (int i = 1; i <= 250; i++) {
            House.due("feed " + i, x.feed(i, 0, -1, 1, 2), 20L * i);
        }
        House.due("feed beyond 5,000", x.feed(1, 2, 3, 4, 5), -1);
        House.due("count(9)", x.count(9), 5000);
        House.due("back(1)", x.back(1), 4999);
        House.due("feed beyond 5,000", x.feed(1, 2, 3, 4, 5), -1);
        House.due("back(18)", x.back(18), 4981);
        House.due("feed to 5,001", x.feed(1, 2, 3, 4, 5), -1);
        House.due("back(1)", x.back(1), 4980);
        House.due("feed to 5,000", x.feed(1, 2, 3, 4, 5), 5000);
        House.due("back(-1)", x.back(-1), -1);
        House.due("back(5001)", x.back(5001), -1);
        House.due("back(min)", x.back(Integer.MIN_VALUE), -1);
        House.due("back(0)", x.back(0), 5000);
        House.due("back(5000)", x.back(5000), 0);
        House.due("back(1) of nothing", x.back(1), -1);
        // "lett" "ers " "a; p" "air " "a:0;": the highest byte comes first
        House.due("feed", x.feed(0x6c657474, 0x65727320, 0x613b2070, 0x61697220, 0x613a303b), 20);
        House.due("read()", x.read(), 7 + 16 * 20);
        House.due("count(9) behind read()", x.count(9), 0);
    }

    private static void tokens() {
        House.fine("% a note, any \0\u00ff byte\n" + ROOT + " % to the end");
        House.fine("letters\ta\r\nb;lexicon Root{a->end 999{f g};0->Root;}");
        House.fine("set Abcdefghijk1 = a; letters a;" + ROOT);
        House.faultDue(1, "^\0" + ROOT);
        House.faultDue(1, "letters a ^\u00e9;" + ROOT);
        House.faultDue(1, "lexicon ^Abcdefghijklm { }");
        House.faultDue(1, "letters a; lexicon Root { a -> end ^1234; }");
        House.faultDue(1, "letters a; lexicon Root { a -> end ^12a; }");
        House.faultDue(1, "letters a; lexicon Root { a ^- > end; }");
        House.faultDue(1, "letters a; rule r a:a ^< = _;");
        House.faultDue(1, "letters a; rule r a:a ^/< _;");
        House.faultDue(1, "letters a; set Sa ^=> a;");
        House.fine("letters a; rule r a:a <=>_; rule s a:a<=_; rule t a:a/<=_; rule u a:a=>_;" + ROOT);
        House.faultDue(1, "letters a; lexicon Root { ^00 -> end; }");
        House.faultDue(1, "letters a; pair a:^00;");
        House.fine("letters a; lexicon Root { a -> end 007; }");
        House.faultDue(1, "grammar ^rule -> a;");
        House.faultDue(1, "grammar a -> ^x0;");
        House.fine("grammar x3 -> Set : x0.ends = x1.starts; " + ROOT);
    }

    private static void syntax() {
        House.due("read() of nothing", House.fault(""), 7);
        House.faultDue(1, "rule^");
        House.faultDue(1, "rule  ^");
        House.faultDue(1, "^letter a;");
        House.faultDue(1, "letters ^;");
        House.faultDue(1, "letters a ^ab;");
        House.faultDue(1, "letters a^");
        House.faultDue(1, "pair ^;");
        House.faultDue(1, "pair a ^b;");
        House.faultDue(1, "pair a:^1;");
        House.faultDue(1, "set ^s = a;");
        House.faultDue(1, "set Ss = ^;");
        House.faultDue(1, "set Ss = a ^Ss;");
        House.faultDue(1, "rule r a:a ^-> _;");
        House.faultDue(1, "rule r a:a => ^;");
        House.faultDue(1, "rule r a:a => a ^;");
        House.faultDue(1, "rule r a:a => a** _;".replace("**", "*^*"));
        House.faultDue(1, "rule r a:a => (^) _;");
        House.faultDue(1, "rule r a:a => (a ^_;");
        House.faultDue(1, "rule r a:a => a ^) _;");
        House.faultDue(1, "rule r a:a => a | ^_;");
        House.faultDue(1, "rule r a:a => _ a:^#;");
        House.faultDue(1, "rule r a:a => _ ^_;");
        House.faultDue(1, "rule r a:a => _ , ^;");
        House.faultDue(1, "lexicon Root ^;");
        House.faultDue(1, "lexicon Root { a -> ^0; }");
        House.faultDue(1, "lexicon Root { a -> end {} ^{}; }");
        House.faultDue(1, "lexicon Root { a -> end {} ^5; }");
        House.faultDue(1, "lexicon Root { a -> end }".replace(" }", " ^}"));
        House.faultDue(1, "lexicon Root { a -> end {^#1}; }");
        House.faultDue(1, "lexicon Root { a -> end {f ^}; }");
        House.faultDue(1, "lexicon Root { a -> end {f # ^g}; }");
        House.faultDue(1, "lexicon Root { a -> end {f #1=^#2}; }");
        House.faultDue(1, "lexicon Root { a -> end {f g^");
        House.faultDue(1, "grammar s ^t;");
        House.faultDue(1, "grammar s -> ^;");
        House.faultDue(1, "grammar s -> a b ^c;");
        House.faultDue(1, "grammar s -> a : ^;");
        House.faultDue(1, "grammar s -> a : ^b = x0;");
        House.faultDue(1, "grammar s -> a : x0. ^= x1;");
        House.faultDue(1, "grammar s -> a : x0 = ^5;");
        House.faultDue(1, "grammar s -> a : x0 = x1, ^;");
        House.faultDue(1, "start ^;");
        House.faultDue(1, "start s ^t;");
    }

    private static void limitsOfLetters() {
        String letters = "letters a b c d e f g h i j k l m n";
        House.fine(letters + ";" + ROOT);
        House.faultDue(2, letters + " ^o;");
        House.faultDue(2, letters + "; letters ^a;");
        House.faultDue(1, letters + "; letters ^oo;");
        String pairs = "pair a:b a:c a:d b:a b:c b:d c:a c:b c:d d:a";
        House.fine(letters + ";" + pairs + ";" + ROOT);
        House.faultDue(2, pairs + " ^d:b;");
        House.faultDue(2, pairs + " ^d b;");
        House.faultDue(2, pairs + "; pair ^a:b;");
        StringBuilder sets = new StringBuilder("letters a;");
        for (int i = 0; i < 8; i++) {
            sets.append("set S").append(i).append(" = a a a;");
        }
        House.fine(sets + ROOT);
        House.faultDue(2, sets + "^set S9 = a;");
        House.faultDue(2, sets + "^set ;");
    }

    private static void limitsOfRules() {
        StringBuilder rules = new StringBuilder("letters a;");
        for (int i = 0; i < 8; i++) {
            rules.append("rule r").append(i).append(" a:a => _;");
        }
        House.fine(rules + ROOT);
        House.faultDue(2, rules + "^rule;");
        String rule = "letters a b; rule r a:a => ";
        House.fine(rule + "_, _, _;" + ROOT);
        House.faultDue(2, rule + "_, _, _, ^_;");
        House.faultDue(2, rule + "_, _, _, ^a _;");
        House.faultDue(1, rule + "_, _, _, ^;");
        String many = "a a:0 # @ (a) b:@ a*  a? a a a ";
        House.fine(rule + many + "_, " + many + "_ a a;" + ROOT);
        House.faultDue(2, rule + many + "_, " + many + "_ a a ^a a;");
        House.fine(rule + "((((((((a)))))))) _ ((((((((a))))))));" + ROOT);
        House.faultDue(2, rule + "((((((((^(a))))))))) _;");
        House.faultDue(2, rule + "((((((((^()))))))) _;");
    }

    private static void limitsOfLexicons() {
        String six = ROOT + "lexicon A {} lexicon B {} lexicon C {} lexicon D {} lexicon E {}";
        House.fine(six);
        House.faultDue(2, six + " ^lexicon F {}");
        String eight = "letters a; lexicon Root { a->end; a->end; a->end; a->end; a->end; a->end; a->end; a->end; ";
        House.fine(eight + "}");
        House.faultDue(2, eight + "^a->end; }");
        House.faultDue(2, eight + "^0->end; }");
        House.faultDue(1, eight + "^1->end; }");
        House.fine("letters a; lexicon Root { aaaaaa -> end; }");
        House.faultDue(2, "letters a; lexicon Root { ^aaaaaaa -> end; }");
        House.faultDue(1, "letters a; lexicon Root { ^aaaaaaaaaaaaa -> end; }");
    }

    private static void limitsOfStructures() {
        String entry = "letters a; lexicon Root { a -> end ";
        House.fine(entry + "{f {f {f {f {f {}}}}}}; }");
        House.faultDue(2, entry + "{f {f {f {f {f {f ^{}}}}}}}; }");
        House.faultDue(2, entry + "{f {f {f {f {f {f #1=^{}}}}}}}; }");
        StringBuilder features = new StringBuilder();
        for (int i = 0; i < 20; i++) {
            features.append("f").append(i).append(" g ");
        }
        House.fine(entry + "{" + features + "}; a -> end {" + features + "}; }");
        House.faultDue(2, entry + "{" + features + " ^f g}; }");
        House.faultDue(2, entry + "{h {" + features.substring(0, features.length() - 6) + " ^f19 g}}; }");
        House.fine(entry + "{f #9 g #0 h #009}; }");
        House.faultDue(2, entry + "{f ^#10}; }");
        House.faultDue(2, entry + "{f ^# 999 = g}; }");
        House.faultDue(1, entry + "{f # ^1000}; }");
    }

    private static void limitsOfGrammar() {
        StringBuilder rules = new StringBuilder();
        for (int i = 0; i < 12; i++) {
            rules.append("grammar s -> s;");
        }
        House.fine(rules + ROOT);
        House.faultDue(2, rules + "^grammar;");
        String eight = "grammar s -> s : x0=x1,x0=x1,x0=x1,x0=x1,x0=x1,x0=x1,x0=x1,x0=x1";
        House.fine(eight + ";" + ROOT);
        House.faultDue(2, eight + ",^x0=x1;");
        House.faultDue(1, eight + ",^s;");
        House.fine("grammar s -> s : x0.a.b.c.d = x1.a.b.c.d;" + ROOT);
        House.faultDue(2, "grammar s -> s : x0.a.b.c.d.^e = x1;");
        House.faultDue(2, "grammar s -> s : x0.a = x1.a.b.c.d.^e;");
        House.faultDue(1, "grammar s -> s : x0.a.b.c.d.^;");
    }

    private static void twice() {
        House.faultDue(3, "letters a b ^a;" + ROOT);
        House.faultDue(3, "letters a; letters ^a;" + ROOT);
        House.faultDue(3, "letters a; set Sa = a; set ^Sa = a;" + ROOT);
        House.faultDue(3, "letters a; rule r a:a => _; rule ^r a:a => _;" + ROOT);
        House.faultDue(3, ROOT + "lexicon ^Root {}");
        House.faultDue(3, "letters a b; pair a:b a:0 ^a:b;" + ROOT);
        House.faultDue(3, "start s; ^start s;" + ROOT);
        House.faultDue(3, "letters a; lexicon Root { a -> end {f g ^f h}; }");
        House.fine("letters a; lexicon Root { a -> end {f {f g} g {f h}}; }");
        House.faultDue(3, "letters a; lexicon Root { a -> end {f #1=g h ^#1=g}; }");
        House.faultDue(3, "letters a; lexicon Root { a -> end {f #1={h ^#1=g}}; }");
        House.fine("letters a; lexicon Root { a -> end {f #1 g #1 h #1=g}; a -> end {f #1=g}; }");
        House.fine("letters a; grammar a -> a; grammar a -> a; lexicon a {} set aa = a; rule aa a:a => _;" + ROOT);
    }

    private static void unknown() {
        House.faultDue(4, "letters a; pair ^b:a;" + ROOT);
        House.faultDue(4, "letters a; pair a:^b;" + ROOT);
        House.fine("pair a:b; letters a b;" + ROOT);
        House.faultDue(4, "letters a; set Sa = a ^b;" + ROOT);
        House.faultDue(4, "letters a; rule r a:a => ^b _;" + ROOT);
        House.faultDue(4, "letters a; rule r a:a => _ a:^b;" + ROOT);
        House.faultDue(4, "letters a; rule r a:a => _ @:^Sb;" + ROOT);
        House.faultDue(4, "letters a; rule r ^b:a => _;" + ROOT);
        House.fine("letters a; rule r a:a => Sa _; set Sa = a;" + ROOT);
        House.faultDue(4, "letters a; lexicon Root { ^ab -> end; }");
        House.faultDue(4, "letters a; lexicon Root { ^a1 -> end; }");
        House.faultDue(4, "letters a; lexicon Root { a -> ^Next; }");
        House.fine("letters a; lexicon Root { a -> Next; } lexicon Next {}");
        House.faultDue(4, "grammar s -> s : x0 = ^x2;" + ROOT);
        House.faultDue(4, "grammar s -> s : ^x2.f = x0;" + ROOT);
        House.fine("grammar s -> s s : x0.f = x2; start nowhere;" + ROOT);
    }

    private static void kind() {
        House.faultDue(5, "letters a A B; pair ^A:B;" + ROOT);
        House.faultDue(5, "letters a A; pair ^A:A;" + ROOT);
        House.faultDue(5, "letters a; pair ^a:a;" + ROOT);
        House.faultDue(5, "letters a; pair ^a:B;" + ROOT);
        House.faultDue(5, "letters a b c d; pair a:b b:a a:c; pair a:d ^a:0;" + ROOT);
        House.faultDue(5, "letters a b; rule r ^a:b => _;" + ROOT);
        House.faultDue(5, "letters a; rule r ^a:b => _;" + ROOT);
        House.faultDue(5, "letters a A; rule r ^A:A => _;" + ROOT);
        House.fine("letters a b; rule r a:b => _; pair a:b;" + ROOT);
        House.faultDue(4, "letters a; rule r a:^b => _; pair a:b;" + ROOT);
        House.faultDue(4, "letters a; pair a:^b; rule r a:b => _;" + ROOT);
    }

    private static void ringAndRoot() {
        House.faultDue(6, "letters a; lexicon Root { a -> end ^{f #1={g #1}}; }");
        House.faultDue(6, "letters a; lexicon Root { a -> end {}; a -> end ^{f #1={g #2} h #2={i #1}}; }");
        House.fine("letters a; lexicon Root { a -> end {f #1={g #2} h #2={i #3} j #3}; }");
        House.faultDue(7, "letters a; lexicon root {}^");
        House.faultDue(7, "letters a;   % note^");
        House.faultDue(6, "letters a; lexicon A { a -> end ^{f #1={g #1}}; }");
    }

    private static void rounds() {
        House.faultDue(1, "letters a a; lexicon Root { b -> end; } ^;");
        House.faultDue(3, "letters a; lexicon Root { a -> end {f #1={g #1}}; } lexicon ^Root {}");
        House.faultDue(4, "letters a; lexicon Root { ^b -> end {f g f g}; }");
        House.faultDue(3, "letters a b; pair a:b ^a:b; rule r b:a => _;" + ROOT);
        House.faultDue(2, "letters a b c d e f g h i j k l m n ^o o 1");
    }

    private static void whatReadForgets() {
        String text = "letters a b; rule r a:a => _; lexicon Root { a -> end {cat s}; ab -> end {cat s}; } start s;";
        House house = House.of(text);
        house.lay(0, "{f g}");
        House.due("holds", house.holds("aa"), 1);
        House.due("forms", house.forms("a"), 1);
        House.due("analyse", house.analyse("a"), 1);
        House.due("near", house.near("a"), 1);
        house.sentence("a", "ab");
        House.due("parse", house.it.parse(), 0);
        house.sentence("a").it.remove(1);
        House.due("parse", house.it.parse(), 1);
        House.due("written", house.written(2, 0), "{cat s}");
        for (int round = 0; round < 2; round++) {
            House.due("a fault changes nothing", house.read("letters ;"), 1 + 16 * 8);
            House.due("count(0)", house.it.count(0), 2);
            House.due("rule(0)", house.it.rule(0), 1);
            House.due("form", house.form(0), "a");
            House.due("candidates", house.it.candidates(), 1);
            House.due("way", house.it.way(0, 0), 0);
            House.due("nearby", house.nearby(0), "ab");
            House.due("reading", house.it.reading(0, 0), 0);
            House.due("count(10)", house.it.count(10), 1);
            House.due("count(12)", house.it.count(12), 3);
        }
        House.due("read", house.read(text), 0);
        House.due("rule(0)", house.it.rule(0), -1);
        House.due("form", house.it.form(0, 0), -1);
        House.due("candidates", house.it.candidates(), 0);
        House.due("way", house.it.way(0, 0), -1);
        House.due("nearby", house.it.nearby(0, 0), -1);
        House.due("reading", house.it.reading(0, 0), -1);
        House.due("node", house.it.node(0, 0, 0), -1);
        House.due("write(2, 0)", house.it.write(2, 0), -1);
        House.due("write(1, 0)", house.it.write(1, 0), -1);
        for (int what = 9; what <= 13; what++) {
            House.due("count(" + what + ")", house.it.count(what), 0);
        }
        House.due("the desk stays", house.written(0, 0), "{f g}");
    }

    private static void counts() {
        House house = House.of("letters a b A; pair A:a A:0; set Sa = a; rule r A:a => a # _ (Sa|b)* ; rule q a:a <= _ @:0;"
                + "lexicon Root { a -> end; b -> B; } lexicon B { A -> end; } grammar s -> s; grammar s -> s s; start s;");
        int[] due = {3, 4, 1, 2, 2, 3, 2, 1, 5, 0, 0, 0, 0, 0};
        for (int what = 0; what < due.length; what++) {
            House.due("count(" + what + ")", house.it.count(what), due[what]);
        }
        House.due("count(14)", house.it.count(14), -1);
        House.due("count(-1)", house.it.count(-1), -1);
        House.due("count(9)", house.tell("abc").it.count(9), 3);
        house.it.back(3);
        house.sentence("a", "b", "a");
        House.due("count(10)", house.it.count(10), 3);
    }
}
