import java.util.function.IntFunction;

/** Promise 4, FAULT 2: each LIMIT of the terms one below it, at it and one above it. */
public final class LimitEdgesTest {
    private static final String ROOT = "lexicon Root { }";

    public static void main(String[] args) {
        letters();
        pairs();
        sets();
        rules();
        contexts();
        atoms();
        brackets();
        lexicons();
        entries();
        deepSides();
        braces();
        features();
        tags();
        grammar();
        equations();
        paths();
        eachOfItsOwn();
        limitAheadOfLaterRounds();
        syntaxAheadOfLimit();
        allAtOnce();
        House.close("LimitEdgesTest");
    }

    /** Texts with so many things, the last one marked by ^ at its first token: up to most is fine, one more is not. */
    private static void limit(int most, IntFunction<String> text) {
        for (int n = 1; n <= most; n++) {
            House.fine(text.apply(n).replace("^", ""));
        }
        House.faultDue(2, text.apply(most + 1));
    }

    /** Things, the last one marked, with something between. */
    private static String row(int n, String between, IntFunction<String> thing) {
        StringBuilder s = new StringBuilder();
        for (int i = 0; i < n; i++) {
            s.append(i > 0 ? between : "").append(i == n - 1 ? "^" : "").append(thing.apply(i));
        }
        return s.toString();
    }

    private static String letter(int i) {
        return String.valueOf((char) ('a' + i));
    }

    private static void letters() {
        House.asks("the 15th LETTER of letters (of all that the text has)");
        limit(14, n -> "letters " + row(n, " ", LimitEdgesTest::letter) + ";" + ROOT);
        limit(14, n -> "letters " + row(n, "; letters ", LimitEdgesTest::letter) + ";" + ROOT);
        limit(14, n -> "letters " + row(n, " ", i -> String.valueOf((char) ('A' + i))) + ";" + ROOT);
        House house = House.of("letters " + row(14, " ", LimitEdgesTest::letter).replace("^", "") + ";" + ROOT);
        House.due("count(0)", house.it.count(0), 14);
    }

    private static final String[] PAIRS = {"a:b", "a:c", "a:0", "b:a", "b:c", "b:0", "c:a", "c:b", "c:0", "A:a", "A:b"};

    private static void pairs() {
        House.asks("the 11th PAIR of pair (of all that the text has");
        limit(10, n -> "letters a b c A; pair " + row(n, " ", i -> PAIRS[i]) + ";" + ROOT);
        limit(10, n -> "pair " + row(n, "; pair ", i -> PAIRS[i]) + "; letters a b c A;" + ROOT);
        House house = House.of("letters a b c A; pair " + row(10, " ", i -> PAIRS[i]).replace("^", "") + ";" + ROOT);
        House.due("count(1)", house.it.count(1), 13);
    }

    private static void sets() {
        House.asks("the 9th set .. (at these words)");
        limit(8, n -> "letters a;" + row(n, "", i -> "set S" + i + " = a;") + ROOT);
        House house = House.of("letters a;" + row(8, "", i -> "set S" + i + " = a;").replace("^", "") + ROOT);
        House.due("count(2)", house.it.count(2), 8);
    }

    private static void rules() {
        House.asks("9th rule (at these words)");
        limit(8, n -> "letters a;" + row(n, "", i -> "rule r" + i + " a:a => _;") + ROOT);
        House house = House.of("letters a;" + row(8, "", i -> "rule r" + i + " a:a => _;").replace("^", "") + ROOT);
        House.due("count(3)", house.it.count(3), 8);
        House.due("holds()", house.holds("aa"), 8);
        House.due("rule(7)", house.it.rule(7), 1);
        House.due("rule(8)", house.it.rule(8), -1);
    }

    private static void contexts() {
        House.asks("4th CONTEXT of one rule");
        limit(3, n -> "letters a; rule r a:a => " + row(n, ",", i -> "_") + ";" + ROOT);
        limit(3, n -> "letters a; rule r a:a /<= " + row(n, " , ", i -> "a _ a") + ";" + ROOT);
        limit(3, n -> "letters a; rule r a:a <= " + row(n, ",", i -> "(a) _") + ";" + ROOT);
        limit(3, n -> "letters a; rule r a:a <=> " + row(n, ",", i -> "# _") + ";" + ROOT);
        limit(3, n -> "letters a; rule r a:a <=> " + row(n, ",", i -> "@ _ #") + ";" + ROOT);
    }

    private static void atoms() {
        House.asks("25th ATOM but ( RE ) of one rule");
        String head = "letters a b; set Ab = a b; rule r a:a => ";
        limit(24, n -> head + row(n, " ", i -> "a") + " _;" + ROOT);
        limit(24, n -> head + "_ " + row(n, " | ", i -> "Ab:0") + ";" + ROOT);
        limit(24, n -> head + row(n, " ", i -> "#") + " _;" + ROOT);
        limit(24, n -> head + "(" + row(n, ")(", i -> "@:b*") + ") _;" + ROOT);
        limit(24, n -> head + spread(n) + ";" + ROOT);
        House house = House.of((head + row(24, " ", i -> "((a))") + " _;" + ROOT).replace("^", ""));
        House.due("count(8)", house.it.count(8), 24);
    }

    /** So many ATOMS, six on each side of two CONTEXTS, the last one marked. */
    private static String spread(int n) {
        StringBuilder s = new StringBuilder();
        for (int i = 0; i < n; i++) {
            s.append(i == 6 || i == 18 ? " _ " : i == 12 ? " , " : " ").append(i == n - 1 ? "^a" : "a");
        }
        return s + (n <= 6 || n > 12 && n <= 18 ? " _" : "");
    }

    private static void brackets() {
        House.asks("9th ( open in one another in RE's");
        String head = "letters a; rule r a:a => ";
        limit(8, n -> head + row(n, "", i -> "(") + "a" + ")".repeat(n) + " _;" + ROOT);
        limit(8, n -> head + "_ " + row(n, " ", i -> "(") + "a" + ")*".repeat(n) + ";" + ROOT);
        limit(8, n -> head + "_ a | " + row(n, "a ", i -> "(") + "a" + ")".repeat(n) + ";" + ROOT);
        House.fine(head + "(a)(a)(a)(a)(a)(a)(a)(a)(a)(a) _ (a)(a)(a)(a)(a)(a)(a)(a)(a)(a);" + ROOT);
        House.fine(head + "((((((((a))))))))((((((((a)))))))) _ ((((((((a))))))))|((((((((a))))))));" + ROOT);
    }

    private static void lexicons() {
        House.asks("7th lexicon (at the word)");
        limit(6, n -> row(n, " ", i -> "lexicon " + (i == 0 ? "Root" : "L" + i) + " { }"));
        House house = House.of(row(6, " ", i -> "lexicon " + (i == 0 ? "Root" : "L" + i) + " { }").replace("^", ""));
        House.due("count(4)", house.it.count(4), 6);
    }

    private static void entries() {
        House.asks("9th ENTRY of one lexicon");
        limit(8, n -> "letters a; lexicon Root { " + row(n, " ", i -> "a -> end;") + " }");
        limit(8, n -> "lexicon Root { " + row(n, " ", i -> "0 -> end;") + " }");
        limit(8, n -> ROOT + "letters a; lexicon Next { " + row(n, "", i -> "aaaaaa -> Root 9 {f p};") + " }");
        StringBuilder all = new StringBuilder("letters a; ");
        for (int l = 0; l < 6; l++) {
            all.append("lexicon ").append(l == 5 ? "Root" : "L" + l).append(" { ").append("a -> end; ".repeat(8)).append("} ");
        }
        House house = House.of(all.toString());
        House.due("count(5)", house.it.count(5), 48);
        House.due("analyse() of a", house.analyse("a"), 8);
        House.due("the last ENTRY of all", house.it.way(7, 0), 47);
    }

    private static void deepSides() {
        House.asks("a DEEP of more than 6 signs");
        limit(6, n -> "letters a; lexicon Root { ^" + "a".repeat(n) + " -> end; }");
        for (int n = 7; n <= 12; n++) {
            House.faultDue(2, "letters a; lexicon Root { ^" + "a".repeat(n) + " -> end; }");
        }
        House.faultDue(1, "letters a; lexicon Root { ^" + "a".repeat(13) + " -> end; }");
        House.faultDue(2, "letters a; lexicon Root { ^a123456 -> end; }");
        House.faultDue(4, "letters a; lexicon Root { ^a12345 -> end; }");
    }

    /** A structure with so many braces in one another, the innermost one marked; each is the value of a feature. */
    private static String deep(int n, String feature) {
        return ("{" + feature).repeat(n - 1) + "^{" + "}".repeat(n);
    }

    private static void braces() {
        House.asks("the 7th { open in one another in a STRUCTURE");
        String head = "letters a; lexicon Root { a -> end ";
        limit(6, n -> head + deep(n, "f ") + "; }");
        limit(6, n -> head + deep(n, "g p f #1=").replaceFirst("#1", "#2").replaceFirst("#1", "#3").replaceFirst("#1", "#4")
                .replaceFirst("#1", "#5").replaceFirst("#1", "#6") + "; }");
        String six = deep(6, "f ").replace("^", "");
        String five = deep(5, "f ").replace("^", "");
        House.fine(head + six + "; a -> end " + six + "; }");
        House.fine(head + "{g " + five + " h " + five + " i " + five + "}; }");
    }

    private static void features() {
        House.asks("the 21st FEATURE of one ENTRY");
        String head = "letters a; lexicon Root { a -> end ";
        limit(20, n -> head + "{" + row(n, " ", i -> "f" + i + " p") + "}; }");
        limit(20, n -> head + "{" + row(n, " ", i -> "f" + i + " {}") + "}; }");
        limit(20, n -> head + "{" + row(n, " ", i -> "f" + i + " #1") + "}; }");
        // every second one in a structure of its own
        limit(20, n -> head + "{" + row(n, " ", i -> i % 2 == 0 ? "f" + i + " {" : "g p}") + (n % 2 == 1 ? "}" : "") + "}; }");
        limit(20, n -> head + "{" + row(n, " ", i -> i % 2 == 0 ? "f" + i + " #" + i / 2 % 10 + "={" : "g p}")
                .replace("f20 #0={", "f20 {") + (n % 2 == 1 ? "}" : "") + "}; }");
    }

    private static void tags() {
        House.asks("a TAG above 9 (at \"#\")");
        String head = "letters a; lexicon Root { a -> end ";
        for (int n = 0; n <= 9; n++) {
            House.fine(head + "{f #" + n + " g #" + n + "=h}; }");
            House.fine(head + "{f # 0" + n + " g #00" + n + "=h}; }");
        }
        House.faultDue(2, head + "{f ^#10}; }");
        House.faultDue(2, head + "{f ^#010}; }");
        House.faultDue(2, head + "{f ^#11=h}; }");
        House.faultDue(2, head + "{f ^#  %\n 100={}}; }");
        House.faultDue(2, head + "{f ^#999}; }");
        House.faultDue(1, head + "{f #^0010}; }");
        House.faultDue(1, head + "{f #^1000}; }");
        House.faultDue(1, head + "{f #^x}; }");
        House.faultDue(2, head + "{f ^#10");
    }

    private static void grammar() {
        House.asks("the 13th grammar (at the word)");
        limit(12, n -> row(n, " ", i -> "grammar s -> s;") + ROOT);
        limit(12, n -> ROOT + row(n, "", i -> "grammar s -> s s " + i + " : x0 = x1;"));
        House house = House.of(ROOT + row(12, "", i -> "grammar s -> s;").replace("^", ""));
        House.due("count(6)", house.it.count(6), 12);
    }

    private static void equations() {
        House.asks("the 9th EQUATION of one");
        limit(8, n -> "grammar s -> s : " + row(n, ",", i -> "x0 = x1") + ";" + ROOT);
        limit(8, n -> "grammar s -> s s 3 : " + row(n, " , ", i -> "x2.f.g.h.i = p") + ";" + ROOT);
    }

    private static void paths() {
        House.asks("the 5th NAME behind . in one PATH");
        for (String root : new String[] {"x0", "x1", "x2"}) {
            limit(4, n -> "grammar s -> s s : " + root + "." + row(n, ".", i -> "f") + " = x0;" + ROOT);
            limit(4, n -> "grammar s -> s s : x0.f.g.h.i = " + root + " . " + row(n, " . ", i -> "f" + i) + ";" + ROOT);
            limit(4, n -> "grammar s -> s s : x0 = x1, " + root + "." + row(n, ".", i -> "f") + " = p;" + ROOT);
        }
        House.fine("grammar s -> s s : x0 = x1, x1 = x2, x2 = p;" + ROOT);
    }

    private static void eachOfItsOwn() {
        House.asks("of one rule / of one lexicon / of one ENTRY / of one / in one PATH");
        String atoms = "a ".repeat(24);
        House.fine("letters a; rule r a:a => " + atoms + "_; rule q a:a => _ " + atoms + ", _, _; rule p a:a <= _, _, "
                + atoms + "_;" + ROOT);
        String twenty = "{" + row(20, " ", i -> "f" + i + " p").replace("^", "") + "}";
        House.fine("letters a; lexicon Root { a -> end " + twenty + "; a -> end " + twenty + "; 0 -> end " + twenty + "; }");
        String eight = row(8, ",", i -> "x0.f.f.f.f = x1.g.g.g.g").replace("^", "");
        House.fine("grammar s -> s : " + eight + "; grammar s -> s : " + eight + ";" + ROOT);
    }

    private static void limitAheadOfLaterRounds() {
        House.asks("a later round only if there is none.");
        String letters = "letters " + row(14, " ", LimitEdgesTest::letter).replace("^", "");
        House.faultDue(2, letters + " ^a;" + ROOT);
        House.faultDue(2, letters + "; letters ^z; pair q:q;");
        House.faultDue(2, "letters a a a a a a a a a a a a a a ^a;");
        House.faultDue(2, "pair a:a a:a a:A a:a a:a a:a a:a a:a a:a a:a ^a:a;");
        House.faultDue(2, row(8, "", i -> "set Ab = q;").replace("^", "") + "^set Ab = a;");
        House.faultDue(2, row(8, "", i -> "rule r q:q => Xy _;").replace("^", "") + "^rule r a:a => _;");
        House.faultDue(2, row(6, "", i -> "lexicon L { q -> M; }").replace("^", "") + "^lexicon L { }");
        House.faultDue(2, "lexicon L { q -> M {f p f p}; ^qqqqqqq -> M; }");
        House.faultDue(2, "start s; start s; lexicon L { 0 -> end {f #1={g #1} h ^#10}; }");
    }

    private static void syntaxAheadOfLimit() {
        House.asks("First round (the first one, token by token)");
        String letters = "letters " + row(14, " ", LimitEdgesTest::letter).replace("^", "");
        House.faultDue(1, letters + " ^ab;");
        House.faultDue(1, letters + " ^A1;");
        House.faultDue(2, letters + " ^o ! ab;");
        House.faultDue(2, letters + " ^o");
        House.faultDue(1, "letters ^! " + letters + " o;");
        String pairs = "pair " + row(10, " ", i -> PAIRS[i]).replace("^", "");
        House.faultDue(1, pairs + " ^aa:b;");
        House.faultDue(1, pairs + " ^0:b;");
        House.faultDue(2, pairs + " ^a;");
        House.faultDue(2, pairs + " ^a:A1;");
        House.faultDue(2, row(8, "", i -> "set Ab = q;").replace("^", "") + "^set a;");
        House.faultDue(2, row(8, "", i -> "rule r q:q => _;").replace("^", "") + "^rule");
        House.faultDue(1, row(8, "", i -> "rule r q:q => _;").replace("^", "") + "^rules");
        House.faultDue(1, "rule r a:a => _, _, _, ^* _;");
        House.faultDue(1, "rule r a:a => _, _, _, ^| _;");
        House.faultDue(1, "rule r a:a => _, _, _, ^) _;");
        House.faultDue(1, "rule r a:a => _, _, _, ^;");
        House.faultDue(1, "rule r a:a => _, _, _,^");
        House.faultDue(2, "rule r a:a => _, _, _, ^_ !");
        House.faultDue(2, "rule r a:a => " + "a ".repeat(24) + "^a:! _;");
        House.faultDue(1, "rule r a:a => " + "a ".repeat(24) + ": ^_;");
        House.faultDue(1, "rule r a:a => " + "a ".repeat(24) + "(^) _;");
        House.faultDue(2, "rule r a:a => " + "a ".repeat(24) + "(^a) _;");
        House.faultDue(2, "rule r a:a => ((((((((^( _;");
        House.faultDue(1, "rule r a:a => ((((((((^) _;");
        House.faultDue(1, "lexicon Root { " + "0 -> end; ".repeat(8) + "^; }");
        House.faultDue(2, "lexicon Root { " + "0 -> end; ".repeat(8) + "^0");
        House.faultDue(1, "lexicon Root { 0 -> end {f {f {f {f {f {f ^}}}}}}; }");
        House.faultDue(1, "lexicon Root { 0 -> end {" + row(20, " ", i -> "f" + i + " p").replace("^", "") + " ^#1}; }");
        House.faultDue(2, "lexicon Root { 0 -> end {" + row(20, " ", i -> "f" + i + " p").replace("^", "") + " ^f}; }");
        House.faultDue(1, "grammar s -> s : " + "x0=x1,".repeat(8) + "^p = x1;");
        House.faultDue(2, "grammar s -> s : " + "x0=x1,".repeat(8) + "^x0;");
        House.faultDue(1, "grammar s -> s : x0.f.f.f.f.^x0 = x1;");
        House.faultDue(2, "grammar s -> s : x0.f.f.f.f.^g ! x1;");
    }

    private static void allAtOnce() {
        House.asks("2 LIMIT: .. (of all that the text has, as all that follow)");
        StringBuilder s = new StringBuilder("letters a b c d e f g h i j k l A B;");
        s.append("pair a:b a:c a:0 b:a b:c b:0 A:a A:b A:0 B:0;");
        for (int i = 0; i < 8; i++) {
            s.append("set S").append(i).append("=a A;");
        }
        for (int i = 0; i < 8; i++) {
            s.append("rule r").append(i).append(" A:a=>a").append(" a".repeat(7)).append("_,b")
                    .append(" b".repeat(7)).append("_,_((((((((a))))))))").append(" a".repeat(7)).append(';');
        }
        for (int l = 0; l < 6; l++) {
            s.append("lexicon ").append(l == 0 ? "Root" : "L" + l).append('{');
            for (int e = 0; e < 8; e++) {
                s.append("aBaBaB->end 999{f{f{f{f{f{}}}}}};");
            }
            s.append('}');
        }
        for (int g = 0; g < 12; g++) {
            s.append("grammar s->s s 9:x0.f=x1").append(",x0=x2".repeat(7)).append(';');
        }
        s.append("start s;");
        House house = House.of(s.toString());
        int[] due = {14, 22, 8, 8, 6, 48, 12, 1, 192};
        for (int what = 0; what < due.length; what++) {
            House.due("count(" + what + ")", house.it.count(what), due[what]);
        }
    }
}
