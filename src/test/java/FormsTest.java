/** Promises 6 to 10: pair strings, rules, what two rules differ in, forms. */
public final class FormsTest {
    private static final String LETTERS = "letters a b c A; pair A:a A:b A:0 a:0; set Sb = b c; lexicon Root { } ";

    public static void main(String[] args) {
        tapes();
        operators();
        atoms();
        borders();
        expressions();
        differ();
        forms();
        manyForms();
        House.close("FormsTest");
    }

    /** How the rule "A:a op context" judges a pair string: 1 or 0. */
    private static void judged(String rule, String pairs, int due) {
        House house = House.of(LETTERS + "rule r " + rule + ";");
        House.due("holds() of " + pairs + " under " + rule, house.holds(pairs), due);
        House.due("rule(0) of " + pairs + " under " + rule, house.it.rule(0), due);
    }

    private static void tapes() {
        House house = House.of(LETTERS + "rule r A:a => b _; rule q A:a => c _;");
        House.due("rule(0) before holds()", house.it.rule(0), -1);
        House.due("holds() of nothing", house.holds(""), 2);
        House.due("holds() of an odd number", house.holds("aab"), -1);
        House.due("the tape is empty then", house.it.count(9), 0);
        House.due("rule(0) stays", house.it.rule(0), 1);
        House.due("holds() of bA", house.holds("bbAa"), 1);
        House.due("rule(0)", house.it.rule(0), 1);
        House.due("rule(1)", house.it.rule(1), 0);
        House.due("rule(2)", house.it.rule(2), -1);
        House.due("rule(-1)", house.it.rule(-1), -1);
        House.due("holds() of 16 pairs", house.holds("aa".repeat(16)), 2);
        House.due("holds() of 17 pairs", house.holds("aa".repeat(17)), -1);
        House.due("holds() of a pair that isn't feasible", house.holds("ab"), -1);
        House.due("holds() of a capital", house.holds("AA"), -1);
        House.due("holds() of a byte 0", house.holds("A\0"), -1);
        House.due("holds() of a high byte", house.holds("a\u00e1"), -1);
        House.due("holds() of nothing written", house.holds("A0a0"), 2);
    }

    private static void operators() {
        judged("A:a => b _", "bbAa", 1);
        judged("A:a => b _", "ccAa", 0);
        judged("A:a => b _", "ccAb", 1);
        judged("A:a => b _ , c _", "ccAa", 1);
        judged("A:a => b _ c, c _ b", "bbAabb", 0);
        judged("A:a => b _ c, c _ b", "ccAabb", 1);
        judged("A:a => b _", "bbAaAa", 0);
        judged("A:a <= b _", "bbAb", 0);
        judged("A:a <= b _", "bbA0", 0);
        judged("A:a <= b _", "bbAa", 1);
        judged("A:a <= b _", "ccAa", 1);
        judged("A:a <= b _", "bbaa", 1);
        judged("A:a <= b _ c", "bbAbcc", 0);
        judged("A:a <= b _ c", "bbAbbb", 1);
        judged("A:a <=> b _", "bbAb", 0);
        judged("A:a <=> b _", "ccAa", 0);
        judged("A:a <=> b _", "bbAaccAb", 1);
        judged("A:a /<= b _", "bbAa", 0);
        judged("A:a /<= b _", "ccAa", 1);
        judged("A:a /<= b _", "bbAb", 1);
        judged("A:a /<= _ , b _", "ccAa", 0);
        judged("A:a => _", "Aa", 1);
        judged("A:a <= _", "Ab", 0);
    }

    private static void atoms() {
        judged("A:a => a _", "aaAa", 1);
        judged("A:a => a _", "a0Aa", 0);
        judged("A:a => a:0 _", "a0Aa", 1);
        judged("A:a => a:0 _", "A0Aa", 0);
        judged("A:a => A:@ _", "A0Aa", 1);
        judged("A:a => @:0 _", "a0Aa", 1);
        judged("A:a => @:b _", "AbAa", 1);
        judged("A:a => @:b _", "bbAa", 1);
        judged("A:a => @ _", "A0Aa", 1);
        judged("A:a => @ _", "Aa", 0);
        judged("A:a => Sb _", "ccAa", 1);
        judged("A:a => Sb _", "AbAa", 0);
        judged("A:a => @:Sb _", "AbAa", 1);
        judged("A:a => @:Sb _", "A0Aa", 0);
        judged("A:a => Sb:@ _", "bbAa", 1);
        judged("A:a => A _", "AaAa", 0);
        House house = House.of("letters a b; pair a:b; set Sab = a b; rule r b:b => Sab _; lexicon Root {}");
        House.due("a SET alone, its letters unlike", house.holds("abbb"), 1);
    }

    private static void borders() {
        judged("A:a => # _", "Aa", 1);
        judged("A:a => # _", "bbAa", 0);
        judged("A:a => _ #", "Aa", 1);
        judged("A:a => _ #", "Aabb", 0);
        judged("A:a => # b _ c #", "bbAacc", 1);
        judged("A:a => # b _ c #", "ccbbAacc", 0);
        judged("A:a => b # _", "bbAa", 0);
        judged("A:a => _ # b", "Aabb", 0);
        judged("A:a => # # _", "Aa", 0);
        judged("A:a => #* _ #?", "bbAacc", 1);
        judged("A:a => @* _", "Aa", 1);
        judged("A:a /<= # @ _", "Aa", 1);
    }

    private static void expressions() {
        judged("A:a => (b|c) (b|c) _", "bbccAa", 1);
        judged("A:a => (b|c) (b|c) _", "aaccAa", 0);
        judged("A:a => # (b c)* _", "bbccbbccAa", 1);
        judged("A:a => # (b c)* _", "bbccbbAa", 0);
        judged("A:a => # b? c _", "ccAa", 1);
        judged("A:a => # b? c _", "bbbbccAa", 0);
        judged("A:a => _ b* c", "Aabbbbcc", 1);
        judged("A:a => _ b* c #", "Aabbbbccaa", 0);
        judged("A:a => _ (b | c? a)* #", "Aabbccaabbaa", 1);
        judged("A:a => _ (b | c? a)* #", "Aabbccbb", 0);
        judged("A:a => a | b c | c b _", "bbccAa", 1);
        judged("A:a => a | b c | c b _", "ccAa", 0);
        judged("A:a => _ ((a*)*)* #", "Aaaaaa", 1);
    }

    private static void differ() {
        House house = House.of("letters a b A; pair A:a A:0; rule p A:a => _; rule q A:a => a _; rule s A:a => a b _;"
                + " rule t A:a => a b a b _; rule u A:a <= _; rule v A:a => @ @ @ @ _; rule w b:b /<= a a a _;"
                + " lexicon Root {}");
        House.due("differ(0, 1)", house.it.differ(0, 1), 2 * 32 + 2);
        House.due("differ(1, 0)", house.it.differ(1, 0), 0);
        House.due("differ(2, 1)", house.it.differ(2, 1), ((4 * 32 + 0L) * 32 + 1) * 32 + 2);
        House.due("differ(1, 2)", house.it.differ(1, 2), (3 * 32 + 0) * 32 + 2);
        House.due("differ(3, 5)", house.it.differ(3, 5), 0);
        House.due("differ beyond size 4", house.it.differ(5, 3), 0);
        House.due("differ(0, 4)", house.it.differ(0, 4), 2 * 32 + 3);
        House.due("differ(0, 6)", house.it.differ(0, 6), (((5 * 32 + 0L) * 32 + 0) * 32 + 0) * 32 + 1);
        House.due("differ(1, 1)", house.it.differ(1, 1), 0);
        House.due("differ(0, 7)", house.it.differ(0, 7), -1);
        House.due("differ(-1, 0)", house.it.differ(-1, 0), -1);
        House.due("differ(min, max)", house.it.differ(Integer.MIN_VALUE, Integer.MAX_VALUE), -1);
    }

    private static void forms() {
        House house = House.of(LETTERS + "rule r A:b => b _; rule q A:0 /<= c _;");
        House.due("form before forms()", house.it.form(0, 0), -1);
        House.due("forms of bA", house.forms("bA"), 3);
        House.due("first", house.form(0), "b");
        House.due("second", house.form(1), "ba");
        House.due("third", house.form(2), "bb");
        House.due("behind the end", house.it.form(0, 1), 0);
        House.due("far behind the end", house.it.form(2, Integer.MAX_VALUE), 0);
        House.due("below 0", house.it.form(0, -1), -1);
        House.due("no such k", house.it.form(3, 0), -1);
        House.due("k below 0", house.it.form(-1, 0), -1);
        House.due("forms of cA", house.forms("cA"), 1);
        House.due("its form", house.form(0), "ca");
        House.due("forms of aA, each once", house.forms("aA"), 3);
        House.due("the empty one", house.it.form(0, 0), 0);
        House.due("the second", house.form(1), "a");
        House.due("the third", house.form(2), "aa");
        House.due("forms of nothing", house.forms(""), -1);
        House.due("forms of 9 letters", house.forms("aaaaaaaaa"), -1);
        House.due("forms of no letter", house.forms("ad"), -1);
        House.due("the tape is empty then", house.it.count(9), 0);
        House.due("what was made stays", house.form(2), "aa");
        House.due("forms of 8 letters", house.forms("aaaaaaaa"), 9);
        House.due("the longest", house.form(8), "aaaaaaaa");
        House.due("its byte 8", house.it.form(8, 8), 0);
        House bare = House.of("letters A a; lexicon Root {}");
        House.due("a capital without pairs", bare.forms("A"), 0);
    }

    private static void manyForms() {
        House house = House.of("letters a b c d; pair a:b a:c a:d; rule r a:d => _ #; lexicon Root {}");
        House.due("forms of aaaa", house.forms("aaaa"), -2);
        House.due("form of many", house.it.form(0, 0), -1);
        House.due("forms of aaa", house.forms("aaa"), 36);
        House.due("the last", house.form(35), "ccd");
        House.due("forms of many", house.forms("aaaaaaaa"), -2);
        House.due("form of many", house.it.form(35, 0), -1);
        House hundred = House.of("letters a b c d e A B; pair A:a A:b a:b a:c a:d b:c; lexicon Root {}");
        House.due("forms of aaa", hundred.forms("aaa"), 64);
        House.due("forms of aaA", hundred.forms("aaA"), 32);
        House.due("forms of AaaA", hundred.forms("AaaA"), 64);
        House.due("forms of aaAA", hundred.forms("aaAAb"), -2);
        House even = House.of("letters a b d B; pair a:b a:0 b:d B:0 B:a; lexicon Root {}");
        House.due("100 forms", even.forms("aBabaB"), 100);
        House.due("a 101st one", even.it.form(100, 0), -1);
        House odd = House.of("letters a b c d B; pair a:0 a:d b:c b:0 B:a B:0; lexicon Root {}");
        House.due("101 forms", odd.forms("abBbb"), -2);
        House small = House.of("letters a b; pair a:0 b:0; lexicon Root {}");
        House.due("forms of abababab", small.forms("abababab"), 88);
    }
}
