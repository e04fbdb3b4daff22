/** Promises 5 to 10 at their edges. */
public final class FormEdgesTest {
    private static final String LETTERS = "letters a b c A; pair A:a A:b A:0 a:0; lexicon Root { } ";

    public static void main(String[] args) {
        countsBeyond();
        feasiblePairs();
        holdsSizes();
        holdsRefused();
        holdsOfNothing();
        ruleNumbers();
        ruleOfTheLatest();
        contextsAtTheEnds();
        borderOnce();
        repeatsFromNone();
        missingSides();
        threeContexts();
        eightRules();
        choicesOfTheirOwn();
        theLastAtom();
        longestStrings();
        differSizes();
        differOrder();
        differOneBehindAnother();
        differAtTheBorder();
        differOfForbidden();
        differOfAllPairs();
        differRefused();
        formsSizes();
        formsRefused();
        formsOfNone();
        hundredForms();
        formsOfEightRules();
        formBytes();
        formOfTheLatest();
        House.close("FormEdgesTest");
    }

    private static void countsBeyond() {
        House.asks("5: NONE for another what.");
        House house = House.of(LETTERS + "rule r A:a => _; start s;");
        int[] wrong = {-1, -2, 14, 15, 100, Integer.MIN_VALUE, Integer.MAX_VALUE};
        for (int what : wrong) {
            House.due("count(" + what + ")", house.it.count(what), -1);
        }
        House.due("count(0)", house.it.count(0), 4);
        House.due("count(13)", house.it.count(13), 0);
    }

    private static void feasiblePairs() {
        House.asks("FEASIBLE PAIRS, numbered from 0 on: x:x of each small LETTER, by the order of letters; then those of pair");
        House house = House.of("pair c:0 B:a; letters c A a; pair A:c; letters B b; lexicon Root { }"
                + "rule r c:c /<= _; rule q a:a /<= _; rule p b:b /<= _; rule o c:0 /<= _; rule n B:a /<= _; rule m A:c /<= _;"
                + "rule all c:c => _;");
        House.due("count(1)", house.it.count(1), 6);
        for (int r = 0; r < 6; r++) {
            House.due("the pair of rule " + r, house.it.differ(6, r), 2 * 32 + r);
        }
    }

    private static void holdsSizes() {
        House.asks("6: NONE: an odd number of bytes, more than 32");
        House house = House.of(LETTERS + "rule r A:a => b _; rule q A:a => c _;");
        for (int bytes = 0; bytes <= 36; bytes++) {
            int due = bytes % 2 == 0 && bytes <= 32 ? 2 : -1;
            House.due("holds() of " + bytes + " bytes", house.holds("a".repeat(bytes)), due);
            House.due("it is empty then", house.it.count(9), 0);
        }
        House.due("holds() of 60 bytes", house.holds("a".repeat(60)), -1);
        House.due("holds() of 5,000 bytes", House.of(LETTERS).holds("a".repeat(5000)), -1);
    }

    private static void holdsRefused() {
        House.asks("6: NONE: .. or two that are no FEASIBLE PAIR.");
        House house = House.of(LETTERS + "rule r A:a => b _;");
        String[] fine = {"aa", "bb", "cc", "Aa", "Ab", "A0", "a0"};
        for (String pair : fine) {
            House.due("holds() of " + pair, house.holds(pair), pair.equals("Aa") ? 0 : 1);
        }
        String[] wrong = {"ab", "b0", "AA", "Ac", "aA", "0a", "00", "dd", "a\0", "A\0", "\0\0", "a ", " a", "a:", "BB", "a\u00b0",
            "\u00e1a", "a1", "A1", "a/", "aaa", "a", "aaab", "aaaaA", "aa:0"};
        for (String pair : wrong) {
            House.due("holds() of " + pair, house.holds(pair), -1);
            House.due("it is empty then", house.it.count(9), 0);
        }
        House.due("15 pairs, then a wrong one", house.holds("aa".repeat(15) + "ab"), -1);
        House.due("a wrong one, then 15", house.holds("ab" + "aa".repeat(15)), -1);
        House.due("16 pairs", house.holds("aa".repeat(15) + "Aa"), 0);
    }

    private static void holdsOfNothing() {
        House.asks("6: (No bytes: the empty pair string.)");
        House house = House.of(LETTERS + "rule r A:a => b _; rule q A:a <= _; rule p A:a /<= _; rule o A:a <=> # _ #;");
        House.due("holds()", house.holds(""), 4);
        for (int r = 0; r < 4; r++) {
            House.due("rule(" + r + ")", house.it.rule(r), 1);
        }
        House.due("without rules", House.of(LETTERS).holds(""), 0);
    }

    private static void ruleNumbers() {
        House.asks("7: NONE if there is none such");
        House house = House.of(LETTERS + "rule r A:a => b _; rule q A:a => _;");
        House.due("holds()", house.holds("Aa"), 1);
        int[] numbers = {Integer.MIN_VALUE, -1, 0, 1, 2, 7, 8, 31, 32, 33, Integer.MAX_VALUE};
        int[] due = {-1, -1, 0, 1, -1, -1, -1, -1, -1, -1, -1};
        for (int i = 0; i < numbers.length; i++) {
            House.due("rule(" + numbers[i] + ")", house.it.rule(numbers[i]), due[i]);
        }
    }

    private static void ruleOfTheLatest() {
        House.asks("7: Of the latest holds() that was not NONE .. or was none since read().");
        String text = LETTERS + "rule r A:a => b _;";
        House house = House.of(text);
        House.due("before the first one", house.it.rule(0), -1);
        House.due("a refused one", house.holds("a"), -1);
        House.due("none that was not NONE", house.it.rule(0), -1);
        House.due("holds()", house.holds("Aa"), 0);
        House.due("rule(0)", house.it.rule(0), 0);
        House.due("a refused one", house.holds("bbA"), -1);
        House.due("rule(0) stays", house.it.rule(0), 0);
        House.due("a refused one", house.holds("bb".repeat(17)), -1);
        House.due("rule(0) stays", house.it.rule(0), 0);
        House.due("holds()", house.holds("bbAa"), 1);
        House.due("rule(0)", house.it.rule(0), 1);
        House.due("a refused text", house.read("rule"), 1 + 16 * 4);
        House.due("rule(0) stays", house.it.rule(0), 1);
        House.due("a text", house.read(text), 0);
        House.due("none since read()", house.it.rule(0), -1);
        House.due("a refused one", house.holds("ab"), -1);
        House.due("none since read()", house.it.rule(0), -1);
        House.due("the empty one", house.holds(""), 1);
        House.due("rule(0)", house.it.rule(0), 1);
    }

    private static void judged(String rule, String pairs, int due) {
        House house = House.of(LETTERS + "rule r " + rule + ";");
        House.due("holds() of " + pairs + " under " + rule, house.holds(pairs), due);
    }

    private static void contextsAtTheEnds() {
        House.asks("some pairs (with the border) that end right ahead of the place fit L, and some that begin right behind it fit R");
        judged("A:a => b _", "Aa", 0);
        judged("A:a => _ b", "Aa", 0);
        judged("A:a => b _", "Aabb", 0);
        judged("A:a => _ b", "bbAa", 0);
        judged("A:a => b _", "bbccAa", 0);
        judged("A:a => _ b", "Aaccbb", 0);
        judged("A:a => b @ _", "bbccAa", 1);
        judged("A:a => _ @ b", "Aaccbb", 1);
        judged("A:a => A:a _", "AaAa", 0);
        judged("A:a => _ A:a", "AaAa", 0);
        judged("A:a => A:a _, # _", "AaAa", 1);
        judged("A:a => _ A:a, _ #", "AaAa", 1);
    }

    private static void borderOnce() {
        House.asks("# fits the BORDER alone, which stands once ahead of the first pair and once behind the last one");
        judged("A:a => # _ #", "Aa", 1);
        judged("A:a => # _", "aaAa", 0);
        judged("A:a => _ #", "Aaaa", 0);
        judged("A:a => # # _", "Aa", 0);
        judged("A:a => _ # #", "Aa", 0);
        judged("A:a => #* _ #*", "Aa", 1);
        judged("A:a => (# #)* b _", "bbAa", 1);
        judged("A:a => @ _", "Aa", 0);
        judged("A:a => _ @", "Aa", 0);
        judged("A:a => # @* _ @* #", "aabbAaccA0", 1);
        judged("A:a => # # @* _", "aabbAa", 0);
        judged("A:a => b # _", "bbAa", 0);
        judged("A:a => _ # b", "Aabb", 0);
    }

    private static void repeatsFromNone() {
        House.asks("* any number, ? one or none");
        for (int n = 0; n <= 14; n++) {
            judged("A:a => # c b* _", "cc" + "bb".repeat(n) + "Aa", 1);
            judged("A:a => _ b* c #", "Aa" + "bb".repeat(n) + "cc", 1);
            judged("A:a => # c b? _", "cc" + "bb".repeat(n) + "Aa", n <= 1 ? 1 : 0);
            judged("A:a => _ b? c #", "Aa" + "bb".repeat(n) + "cc", n <= 1 ? 1 : 0);
            judged("A:a => # c (b b)* _", "cc" + "bb".repeat(n) + "Aa", n % 2 == 0 ? 1 : 0);
            judged("A:a => # c b b* _", "cc" + "bb".repeat(n) + "Aa", n >= 1 ? 1 : 0);
        }
        judged("A:a => # (b?)* _ (b*)? #", "Aa", 1);
    }

    private static void missingSides() {
        House.asks("a missing RE fits the empty row alone (so that side holds everywhere)");
        String[] strings = {"Aa", "bbAa", "Aabb", "bbAacc", "AaAaAa"};
        for (String pairs : strings) {
            judged("A:a => _", pairs, 1);
            judged("A:a /<= _", pairs, 0);
            judged("A:a <= _", pairs, 1);
            judged("A:a <= _", pairs + "Ab", 0);
        }
        judged("A:a => b _", "ccAaccAa", 0);
        judged("A:a => _ c", "bbAaccAacc", 1);
    }

    private static void threeContexts() {
        House.asks("=>: at each place where a:b stands one of its CONTEXTS, at least, holds. /<=: where a:b stands none of them holds.");
        String[] ahead = {"aa", "bb", "cc", "A0", "Ab"};
        for (int i = 0; i < ahead.length; i++) {
            int one = i < 3 ? 1 : 0;
            judged("A:a => a _, b _, c _", ahead[i] + "Aa", one);
            judged("A:a /<= a _, b _, c _", ahead[i] + "Aa", 1 - one);
            judged("A:a <=> a _, b _, c _", ahead[i] + "Aa", one);
            judged("A:b <= a _, b _, c _", ahead[i] + "Aa", 1 - one);
            judged("A:b <=> a _, b _, c _", ahead[i] + "Aa", i == 3 ? 1 : 0);
            judged("A:a => _ a, _ b, _ c", "Aa" + ahead[i], one);
            judged("A:a /<= _ a, _ b, _ c", "Aa" + ahead[i], 1 - one);
        }
        // each context is whole: the left side of one and the right side of another are none
        judged("A:a => a _ a, b _ b, c _ c", "aaAabb", 0);
        judged("A:a => a _ a, b _ b, c _ c", "ccAacc", 1);
        judged("A:a => a _ a, b _ b, c _ c", "aaAaaabbAabbccAacc", 1);
        judged("A:a => a _ a, b _ b, c _ c", "aaAaaabbAabbccAabb", 0);
    }

    private static void eightRules() {
        House.asks("6: how many of the rules hold of it");
        StringBuilder s = new StringBuilder(LETTERS);
        for (int r = 0; r < 8; r++) {
            s.append("rule r").append(r).append(" A:a => # ").append("b ".repeat(r)).append("_;");
        }
        House house = House.of(s.toString());
        for (int n = 0; n <= 9; n++) {
            House.due("holds()", house.holds("bb".repeat(n) + "Aa"), n < 8 ? 1 : 0);
            for (int r = 0; r < 8; r++) {
                House.due("rule(" + r + ")", house.it.rule(r), r == n ? 1 : 0);
            }
        }
    }

    private static void choicesOfTheirOwn() {
        House.asks("RE: ROW (\"|\" ROW)*: | one of both");
        judged("A:a => b | c _ a", "bbAaaa", 1);
        judged("A:a => b | c _ a", "ccAaaa", 1);
        judged("A:a => b | c _ a", "bbAabb", 0);
        judged("A:a => (b | c) _ (a)", "bbAabb", 0);
        judged("A:a => (b | c) _ (a)", "bbAaaa", 1);
        judged("A:a => a b | c _ , (a | b) c _ , (c) _ #", "ccAa", 1);
        judged("A:a => b | c _ # , a _", "bbAabb", 0);
        judged("A:a => (b | c) b _ , (a) a _", "bbaaAa", 0);
        judged("A:a => ((b | c) a | (b) c) _", "ccccAa", 0);
        judged("A:a => ((b | c) a | (b) c) _", "bbccAa", 1);
        House house = House.of(LETTERS + "rule r A:a => b | (b | c) c _ ; rule q A:a => a (a) _ ;");
        House.due("holds()", house.holds("bbAa"), 1);
        House.due("the second rule takes nothing of the first", house.it.rule(1), 0);
        House.due("holds()", house.holds("bbaaAa"), 0);
        House.due("holds()", house.holds("aaaaAa"), 1);
        House.due("the second rule", house.it.rule(1), 1);
    }

    private static void theLastAtom() {
        House.asks("25th ATOM: the 24th counts as the first one does");
        for (int at = 0; at < 24; at++) {
            StringBuilder s = new StringBuilder();
            for (int i = 0; i < 24; i++) {
                s.append(i > 0 ? "|" : "").append(i == at ? "c" : "b");
            }
            judged("A:a => " + s + " _", "ccAa", 1);
            judged("A:a => _ " + s, "Aacc", 1);
            judged("A:a /<= " + s + " _", "ccAa", 0);
            judged("A:a => " + s + " _", "aaAa", 0);
        }
        judged("A:a => # " + "b ".repeat(15) + "_, # " + "b? ".repeat(6) + "_ #", "bb".repeat(6) + "Aa", 1);
        judged("A:a => # " + "b ".repeat(15) + "_, # " + "b? ".repeat(6) + "_ #", "bb".repeat(7) + "Aa", 0);
        judged("A:a => # " + "b ".repeat(15) + "_, # " + "b? ".repeat(6) + "_ #", "bb".repeat(15) + "Aa", 1);
    }

    private static void longestStrings() {
        House.asks("6: .. more than 32");
        judged("A:a => _ b* #", "Aa" + "bb".repeat(15), 1);
        judged("A:a => _ b* c #", "Aa" + "bb".repeat(15), 0);
        judged("A:a => # b* _", "bb".repeat(15) + "Aa", 1);
        judged("A:a => # c b* _", "bb".repeat(15) + "Aa", 0);
        // each of the 16 waits for the last one
        judged("A:a => _ A:a* #", "Aa".repeat(16), 1);
        judged("A:a => _ A:a* c #", "Aa".repeat(16), 0);
        judged("A:a => _ A:a* c #", "Aa".repeat(15) + "cc", 1);
        judged("A:a => # A:a* _", "Aa".repeat(16), 1);
        judged("A:b <= _ A:a* #", "Aa".repeat(16), 0);
    }

    /** The answer of differ() for these pairs. */
    private static long code(int... pairs) {
        long code = pairs.length + 1;
        for (int pair : pairs) {
            code = 32 * code + pair;
        }
        return code;
    }

    private static void differSizes() {
        House.asks("8: The pair string of least size, at most 4");
        // the second rule is broken by n letters b behind one another alone
        House house = House.of("letters a b; lexicon Root { } rule all a:a => _; rule one b:b /<= _; rule two b:b /<= b _;"
                + "rule three b:b /<= b b _; rule four b:b /<= b b b _; rule five b:b /<= b b b b _;");
        House.due("size 1", house.it.differ(0, 1), code(1));
        House.due("size 2", house.it.differ(0, 2), code(1, 1));
        House.due("size 3", house.it.differ(0, 3), code(1, 1, 1));
        House.due("size 4", house.it.differ(0, 4), code(1, 1, 1, 1));
        House.due("size 5 is too large", house.it.differ(0, 5), 0);
        House.due("none such", house.it.differ(5, 0), 0);
        House.due("two of size 4", house.it.differ(3, 4), 0);
        House.due("size 3 and 4", house.it.differ(4, 3), code(1, 1, 1));
        House.due("a rule with itself", house.it.differ(4, 4), 0);
        House.due("the largest number", House.of("letters a b c d e f g h i j k l m n; pair a:b a:c a:d b:a b:c b:d c:a c:b c:d n:0;"
                + "lexicon Root { } rule all a:a => _; rule r n:0 /<= n:0 n:0 n:0 _;").it.differ(0, 1), code(23, 23, 23, 23));
    }

    private static void differOrder() {
        House.asks("8: of these the first by the number of the first pair that differs");
        House house = House.of("letters a b c; pair c:0; lexicon Root { } rule all a:a => _; rule r c:c /<= @ _ , _ @;"
                + "rule q c:0 /<= b _ , _ a; rule p a:a /<= _ b, c _, b:b _;");
        House.due("differ(0, 1)", house.it.differ(0, 1), code(0, 2));
        House.due("differ(0, 2)", house.it.differ(0, 2), code(1, 3));
        House.due("differ(0, 3)", house.it.differ(0, 3), code(0, 1));
        House.due("differ(1, 3)", house.it.differ(1, 3), code(0, 1));
        House.due("differ(3, 1)", house.it.differ(3, 1), code(0, 2));
    }

    private static void differOneBehindAnother() {
        House.asks("8: of these the first by the number of the first pair that differs");
        House house = House.of("letters a b c d; lexicon Root { } rule all a:a => _; rule r d:d /<= _; rule q a:a /<= c _, d _; rule p b:b /<= _;");
        for (int turn = 0; turn < 3; turn++) {
            House.due("differ(0, 1)", house.it.differ(0, 1), code(3));
            House.due("differ(0, 2)", house.it.differ(0, 2), code(2, 0));
            House.due("differ(1, 2)", house.it.differ(1, 2), code(2, 0));
            House.due("differ(0, 3)", house.it.differ(0, 3), code(1));
            House.due("differ(2, 3)", house.it.differ(2, 3), code(1));
        }
    }

    private static void differAtTheBorder() {
        House.asks("8: .. of which rule r holds and rule s does not");
        House house = House.of("letters a b; lexicon Root { } rule all a:a => _; rule first b:b => # _; rule last b:b => _ #; rule never b:b /<= # _ #;"
                + "rule ahead b:b /<= # _; rule behind b:b /<= _ #;");
        for (int turn = 0; turn < 2; turn++) {
            House.due("differ(0, 1)", house.it.differ(0, 1), code(0, 1));
            House.due("differ(0, 2)", house.it.differ(0, 2), code(1, 0));
            House.due("differ(0, 3)", house.it.differ(0, 3), code(1));
            House.due("differ(1, 2)", house.it.differ(1, 2), code(1, 0));
            House.due("differ(2, 1)", house.it.differ(2, 1), code(0, 1));
            House.due("differ(1, 4)", house.it.differ(1, 4), code(1));
            House.due("differ(4, 1)", house.it.differ(4, 1), code(0, 1));
            House.due("differ(5, 2)", house.it.differ(5, 2), code(1, 0));
            House.due("differ(4, 5)", house.it.differ(4, 5), code(0, 1));
            House.due("differ(3, 4)", house.it.differ(3, 4), code(1, 0));
        }
    }

    private static void differOfForbidden() {
        House.asks("8: of these the first by the number of the first pair that differs");
        House house = House.of("letters a b A; pair A:a A:b A:0; lexicon Root { } rule r A:a <= b _; rule s A:a <= _; rule t A:b <= _; rule u A:b <= b _;");
        // pairs: a:a 0, b:b 1, A:a 2, A:b 3, A:0 4
        House.due("differ(0, 1)", house.it.differ(0, 1), code(3));
        House.due("differ(1, 0)", house.it.differ(1, 0), 0);
        House.due("differ(0, 2)", house.it.differ(0, 2), code(2));
        House.due("differ(1, 2)", house.it.differ(1, 2), code(2));
        House.due("differ(2, 1)", house.it.differ(2, 1), code(3));
        House.due("differ(0, 3)", house.it.differ(0, 3), code(1, 2));
        House.due("differ(3, 0)", house.it.differ(3, 0), code(1, 3));
    }

    private static void differOfAllPairs() {
        House.asks("8: .. 32 times that and the pair's number");
        String letters = "abcdefghijklmn";
        String told = "a:b a:c a:d b:a b:c b:d c:a c:b c:d n:0";
        StringBuilder each = new StringBuilder();
        StringBuilder but = new StringBuilder();
        String[] pairs = (letters.replaceAll("(.)", "$1:$1 ") + told).split(" ");
        for (int p = 0; p < 24; p++) {
            each.append(p > 0 ? "|" : "").append(pairs[p]);
            but.append(p > 0 ? "|" : "").append(p == 22 ? "#" : pairs[p]);
        }
        House house = House.of("letters " + letters.replaceAll("(.)", "$1 ") + "; pair " + told + "; lexicon Root { } rule all a:a => _; "
                + "rule one n:0 => (" + each + ") _; rule two n:0 => (" + but + ") _; rule three n:0 /<= (" + each + ") _;");
        House.due("count(1)", house.it.count(1), 24);
        for (int turn = 0; turn < 20; turn++) {
            House.due("differ(0, 1)", house.it.differ(0, 1), code(23));
            House.due("differ(1, 2)", house.it.differ(1, 2), code(22, 23));
            House.due("differ(2, 1)", house.it.differ(2, 1), code(23));
            House.due("differ(0, 3)", house.it.differ(0, 3), code(0, 23));
            House.due("differ(2, 3)", house.it.differ(2, 3), code(0, 23));
        }
    }

    private static void differRefused() {
        House.asks("8: 0: there is none; NONE: one of both is none.");
        House house = House.of(LETTERS + "rule r A:a => b _; rule q A:a => _;");
        int[] wrong = {-1, 2, 8, Integer.MIN_VALUE, Integer.MAX_VALUE};
        for (int r : wrong) {
            House.due("differ(" + r + ", 0)", house.it.differ(r, 0), -1);
            House.due("differ(1, " + r + ")", house.it.differ(1, r), -1);
            House.due("differ(" + r + ", " + r + ")", house.it.differ(r, r), -1);
        }
        House.due("differ(0, 1)", house.it.differ(0, 1), 0);
        House.due("differ(1, 0)", house.it.differ(1, 0), code(3));
        House bare = House.of("letters A; lexicon Root { }");
        House.due("without rules", bare.it.differ(0, 0), -1);
    }

    private static void formsSizes() {
        House.asks("9: The tape tells a deep side of 1 to 8 LETTERS; it is empty then");
        House house = House.of(LETTERS);
        for (int n = 0; n <= 20; n++) {
            House.due("forms() of " + n + " letters", house.forms("b".repeat(n)), n >= 1 && n <= 8 ? 1 : -1);
            House.due("it is empty then", house.it.count(9), 0);
            if (n >= 1) {
                House.due("its first form", house.form(0), "b".repeat(Math.min(n, 8)));
            }
        }
    }

    private static void formsRefused() {
        House.asks("9: NONE: it is none such.");
        House house = House.of(LETTERS);
        House.due("forms()", house.forms("ab"), 2);
        String[] wrong = {"", "d", "B", "ad", "da", "a0", "0", "a ", " a", "a;", "a\0", "\u00e1", "aaaaaaaaa", "abcabcabcA"};
        for (String deep : wrong) {
            House.due("forms() of " + deep, house.forms(deep), -1);
            House.due("it is empty then", house.it.count(9), 0);
            House.due("the latest stays", house.form(1), "b");
            House.due("the latest stays", house.form(0), "ab");
            House.due("and has no third", house.it.form(2, 0), -1);
        }
    }

    private static void formsOfNone() {
        House.asks("9: how many written sides (each once) its GOOD pair strings have");
        House house = House.of(LETTERS + "rule r A:0 /<= _; rule q a:0 /<= b _; rule p A:a /<= _; rule o A:b => a _;");
        House.due("none", house.forms("A"), 0);
        House.due("no form", house.it.form(0, 0), -1);
        House.due("one", house.forms("ba"), 1);
        House.due("two", house.forms("a"), 2);
        House.due("the empty one is first", house.it.form(0, 0), 0);
        House.due("then a", house.form(1), "a");
        House.due("each once", House.of(LETTERS).forms("aaaa"), 5);
        House bare = House.of("letters A; lexicon Root { }");
        House.due("a capital without pairs", bare.forms("A"), 0);
        House.due("eight of them", bare.forms("AAAAAAAA"), 0);
    }

    private static final String HUNDRED = "letters a b c d A; pair A:a A:b A:c a:b a:c a:d; lexicon Root { } rule r A:a /<= # _ A:a A:a @ #;";

    /** AAAa has 3 * 3 * 3 * 4 written sides, 4 less by the first rule, and so many less by the second one. */
    private static void hundredForms() {
        House.asks("9: MANY above 100");
        House.due("99", House.of(HUNDRED + "rule q A:b /<= # _ A:a A:a @ #; rule p A:c /<= # _ A:a A:a a:a #;").forms("AAAa"), 99);
        House rim = House.of(HUNDRED + "rule q A:b /<= # _ A:a A:a @ #;");
        House.due("100", rim.forms("AAAa"), 100);
        House.due("the first one", rim.form(0), "aaba");
        House.due("the last one", rim.form(99), "cccd");
        House.due("and none", rim.it.form(100, 0), -1);
        House over = House.of(HUNDRED + "rule q A:b /<= # _ A:a A:a (a:a|a:b|a:c) #;");
        House.due("101", over.forms("AAAa"), -2);
        House.due("form(0, 0) of MANY", over.it.form(0, 0), -1);
        House.due("form(99, 0) of MANY", over.it.form(99, 0), -1);
        House.due("forms() of b", over.forms("b"), 1);
        House.due("form(0, 0)", over.it.form(0, 0), 'b');
        House.due("104", House.of(HUNDRED).forms("AAAa"), -2);
        House.due("4 to the 8th", House.of(HUNDRED).forms("aaaaaaaa"), -2);
    }

    private static void formsOfEightRules() {
        House.asks("A pair string is GOOD, if all rules hold of it.");
        StringBuilder s = new StringBuilder("letters a b c d e f g h A B C; pair A:a A:b A:c B:d B:e B:f C:g C:h; lexicon Root { }");
        String[] pairs = {"A:a", "A:b", "A:c", "B:d", "B:e", "B:f", "C:g", "C:h"};
        for (int r = 0; r < 8; r++) {
            s.append("rule r").append(r).append(' ').append(pairs[r]).append(" /<= _;");
        }
        for (int r = 0; r < 8; r++) {
            House house = House.of(s.toString().replace(pairs[r] + " /<= _;", pairs[r] + " => _;"));
            House.due("forms() of A", house.forms("A"), r < 3 ? 1 : 0);
            House.due("forms() of B", house.forms("B"), r >= 3 && r < 6 ? 1 : 0);
            House.due("forms() of C", house.forms("C"), r >= 6 ? 1 : 0);
            House.due("forms() of eight", house.forms("abcdefgh"), 1);
        }
    }

    private static void formBytes() {
        House.asks("10: by bytes, the shorter one first where it begins the other; 0 behind its end; .. or i is below 0.");
        House house = House.of("letters b a A; pair A:a A:b A:0 a:0; lexicon Root { }");
        House.due("forms() of AaA", house.forms("AaA"), 11);
        String[] due = {"", "a", "aa", "aaa", "aab", "ab", "b", "ba", "baa", "bab", "bb"};
        for (int k = 0; k < due.length; k++) {
            House.due("form " + k, house.form(k), due[k]);
            House.due("its byte behind the end", house.it.form(k, due[k].length()), 0);
            House.due("its byte 8", house.it.form(k, 8), 0);
            House.due("a far byte", house.it.form(k, Integer.MAX_VALUE), 0);
            House.due("a byte below 0", house.it.form(k, -1), -1);
            House.due("a byte far below 0", house.it.form(k, Integer.MIN_VALUE), -1);
        }
        int[] wrong = {-1, 11, 12, 100, Integer.MIN_VALUE, Integer.MAX_VALUE};
        for (int k : wrong) {
            House.due("form(" + k + ", 0)", house.it.form(k, 0), -1);
            House.due("form(" + k + ", 9)", house.it.form(k, 9), -1);
        }
        House.due("forms() of 8", house.forms("bbbbbbbb"), 1);
        House.due("byte 7", house.it.form(0, 7), 'b');
        House.due("byte 8", house.it.form(0, 8), 0);
    }

    private static void formOfTheLatest() {
        House.asks("10: of the latest forms() that was not NONE .. NONE if there is none such (of MANY ones too)");
        House house = House.of(HUNDRED);
        House.due("before the first one", house.it.form(0, 0), -1);
        House.due("a refused one", house.forms("q"), -1);
        House.due("still none", house.it.form(0, 0), -1);
        House.due("forms()", house.forms("a"), 4);
        House.due("form(3, 0)", house.it.form(3, 0), 'd');
        House.due("many", house.forms("aaaa"), -2);
        House.due("form(0, 0)", house.it.form(0, 0), -1);
        House.due("a refused one", house.forms(""), -1);
        House.due("the latest is MANY still", house.it.form(0, 0), -1);
        House.due("forms()", house.forms("b"), 1);
        House.due("form(0, 0)", house.it.form(0, 0), 'b');
        House.due("form(1, 0)", house.it.form(1, 0), -1);
    }
}
