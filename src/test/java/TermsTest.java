/** Sentences of the document's Terms that name no boundary: what fits, what holds, what is one and the same, what is another. */
public final class TermsTest {
    public static void main(String[] args) {
        smallAndCapital();
        everyAtom();
        everyOperator();
        contextsTogether();
        partsBehindOneAnother();
        setsOfTheirOwn();
        entriesByTheText();
        tagsOfOneEntry();
        oneNodeForAll();
        fortyEmptyNodes();
        twentyTags();
        namesThatBeginOthers();
        catAmongForty();
        copiesAlone();
        sixteenLetters();
        wordsThatBeginOthers();
        House.close("TermsTest");
    }

    private static void smallAndCapital() {
        House.asks("The LETTERS that are small are deep and written ones, the capitals deep ones alone.");
        House house = House.of("letters a A b B; pair A:a B:0; lexicon Root { aAB -> end; A -> end; }");
        House.due("pairs a:a b:b A:a B:0", house.it.count(1), 4);
        House.due("a:a", house.holds("aa"), 0);
        House.due("A:A", house.holds("AA"), -1);
        House.due("a:A", house.holds("aA"), -1);
        House.due("A:a", house.holds("Aa"), 0);
        House.due("analyse A", house.analyse("A"), -1);
        House.due("analyse a", house.analyse("a"), 1);
        House.due("forms A", house.forms("A"), 1);
        House.due("form", house.form(0), "a");
        House.asks("its DEEP side are their deep LETTERS, its WRITTEN side their written ones without 0s");
        House.due("analyse aa", house.analyse("aa"), 1);
        House.due("its pairs", house.it.candidate(0, 5) + " " + house.it.candidate(0, 6) + " " + house.it.candidate(0, 7), "0 2 3");
        House.due("forms BaBAB", house.forms("BaBAB"), 1);
        House.due("form", house.form(0), "aa");
    }

    /** An ATOM, and the pairs of a:a b:b A:a A:b A:0 b:a that it fits. */
    private static final String[] ATOMS = {
        "a", "aa", "b", "bb", "A", "", "Sa", "aa Aa", "Sb", "bb", "@", "aa bb Aa Ab A0 ba", "#", "",
        "a:a", "aa", "a:b", "", "b:a", "ba", "A:a", "Aa", "A:b", "Ab", "A:0", "A0", "A:A", "", "a:0", "", "b:0", "",
        "a:Sa", "aa", "b:Sa", "ba", "A:Sa", "Aa", "A:Sb", "Ab", "a:@", "aa", "b:@", "bb ba", "A:@", "Aa Ab A0",
        "Sa:a", "aa Aa", "Sa:b", "Ab", "Sa:A", "", "Sa:0", "A0", "Sa:@", "aa Aa Ab A0", "Sa:Sa", "aa Aa", "Sa:Sb", "Ab",
        "Sb:Sa", "ba", "Sb:Sb", "bb", "Sb:0", "", "Sb:@", "bb ba",
        "@:a", "aa Aa ba", "@:b", "bb Ab", "@:A", "", "@:0", "A0", "@:Sa", "aa Aa ba", "@:Sb", "bb Ab",
        "@:@", "aa bb Aa Ab A0 ba",
    };

    private static void everyAtom() {
        House.asks("An ATOM S : T fits a pair whose deep LETTER is S, is of the set S, or any (@), and whose written one is T, of the set T, "
                + "any (0, too), or nothing (0); S alone is S : S");
        for (int k = 0; k < ATOMS.length; k += 2) {
            String text = "letters a b c A; pair A:a A:b A:0 b:a; set Sa = a A; set Sb = b; lexicon Root {} rule ahead c:c => "
                    + ATOMS[k] + " _; rule behind c:c => _ " + ATOMS[k] + ";";
            House house = House.of(text);
            for (String pair : "aa bb Aa Ab A0 ba".split(" ")) {
                int due = ATOMS[k + 1].contains(pair) ? 1 : 0;
                house.holds(pair + "cc");
                House.due(ATOMS[k] + " ahead fits " + pair, house.it.rule(0), due);
                house.holds("cc" + pair);
                House.due(ATOMS[k] + " behind fits " + pair, house.it.rule(1), due);
            }
        }
    }

    /** One rule alone: whether it holds of a pair string. */
    private static void judged(String rule, String pairs, int due) {
        House house = House.of("letters a b c A; pair A:a A:b A:0; rule r " + rule + "; lexicon Root {}");
        House.due(rule + " of " + pairs, house.holds(pairs), due);
    }

    private static void everyOperator() {
        House.asks("=>: at each place where a:b stands one of its CONTEXTS holds. <=: where one of these holds at a place whose deep LETTER is a, "
                + "a:b stands. <=>: both. /<=: where a:b stands none of them holds.");
        String[] operators = {"=>", "<=", "<=>", "/<="};
        String[] contexts = {"b _", "_ c", "b _ c"};
        // of each operator: A:a in a context, A:a in none, A:b in one, A:b in none
        int[][] due = {{1, 0, 1, 1}, {1, 1, 0, 1}, {1, 0, 0, 1}, {0, 1, 1, 1}};
        for (int op = 0; op < operators.length; op++) {
            for (String context : contexts) {
                String rule = "A:a " + operators[op] + " " + context;
                judged(rule, "bbAacc", due[op][0]);
                judged(rule, "aaAaaa", due[op][1]);
                judged(rule, "ccAabb", due[op][1]);
                judged(rule, "bbAbcc", due[op][2]);
                judged(rule, "bbA0cc", due[op][2]);
                judged(rule, "aaAbaa", due[op][3]);
                judged(rule, "bbaacc", 1);
                judged(rule, "bbAaccbbAacc", due[op][0]);
                judged(rule, "bbAaccaaAaaa", due[op][0] & due[op][1]);
                judged(rule, "aaAbaabbAbcc", due[op][3] & due[op][2]);
            }
        }
    }

    private static void contextsTogether() {
        House.asks("one of its CONTEXTS, at least, holds: the left sides of several hold at one place, the right side of one");
        String[] right = {"cc", "aa", "bb"};
        int[] only = {1, 1, 0};
        for (int k = 0; k < right.length; k++) {
            judged("A:a => b _ c, b _ a", "bbAa" + right[k], only[k]);
            judged("A:a => b _ a, b _ c", "bbAa" + right[k], only[k]);
            judged("A:a => _ c, b _ a", "bbAa" + right[k], only[k]);
            judged("A:a => b _ a, _ c", "bbAa" + right[k], only[k]);
            judged("A:a => @ _ c, b _ a, b _ A:b", "bbAa" + right[k], only[k]);
            judged("A:a <= b _ c, b _ a", "bbAb" + right[k], 1 - only[k]);
            judged("A:a <= _ c, b _ a", "bbAb" + right[k], 1 - only[k]);
            judged("A:a /<= b _ c, b _ a", "bbAa" + right[k], 1 - only[k]);
            judged("A:a /<= b _ A:b, # b _ c, b _ a", "bbAa" + right[k], 1 - only[k]);
        }
        judged("A:a => _ c, b _ a", "aaAaaa", 0);
        judged("A:a => b _ c, c _ b", "bbAabb", 0);
        judged("A:a => b _ c, c _ b", "ccAabb", 1);
    }

    private static void partsBehindOneAnother() {
        House.asks("A ROW fits parts behind one another, | one of both, * any number, ? one or none");
        String[] right = {"aa", "1", "aabbcc", "1", "aabbccbbcc", "1", "", "0", "aaaa", "0", "aabbccaa", "0", "aabb", "0", "bbcc", "0"};
        for (int k = 0; k < right.length; k += 2) {
            judged("A:a => _ a (b c)* #", "Aa" + right[k], Integer.parseInt(right[k + 1]));
        }
        String[] left = {"cc", "1", "aabbcc", "1", "aabbaabbcc", "1", "", "0", "aacc", "0", "cccc", "0", "bbcc", "0", "aabb", "0"};
        for (int k = 0; k < left.length; k += 2) {
            judged("A:a => # (a b)* c _", left[k] + "Aa", Integer.parseInt(left[k + 1]));
        }
        String[] choice = {"aabb", "1", "cc", "1", "", "1", "aa", "0", "bb", "0", "aabbcc", "0", "cccc", "0"};
        for (int k = 0; k < choice.length; k += 2) {
            judged("A:a => # (a b | c)? _", choice[k] + "Aa", Integer.parseInt(choice[k + 1]));
        }
        String[] mixed = {"aacc", "1", "bbcc", "1", "aabbaacc", "1", "cc", "1", "aa", "0", "aaccaa", "0", "aacccc", "0"};
        for (int k = 0; k < mixed.length; k += 2) {
            judged("A:a => _ (a | b)* c #", "Aa" + mixed[k], Integer.parseInt(mixed[k + 1]));
        }
    }

    private static void setsOfTheirOwn() {
        House.asks("ATOM .. is of the set S: each set has its own LETTERS");
        String letters = "abcdefgh";
        StringBuilder sets = new StringBuilder();
        for (char c : letters.toCharArray()) {
            sets.append("set S").append(c).append(" = ").append(c).append("; ");
        }
        for (char named : letters.toCharArray()) {
            String rule = "rule r z:z => S" + named + " _; ";
            House behind = House.of("letters a b c d e f g h z; " + sets + rule + "lexicon Root {}");
            House ahead = House.of(rule + "lexicon Root {} " + sets + "letters a b c d e f g h z;");
            for (char c : letters.toCharArray()) {
                House.due("S" + named + " fits " + c, behind.holds("" + c + c + "zz"), named == c ? 1 : 0);
                House.due("S" + named + ", told behind, fits " + c, ahead.holds("" + c + c + "zz"), named == c ? 1 : 0);
            }
        }
    }

    private static void entriesByTheText() {
        House.asks("ENTRIES are numbered from 0 on, in the order of the text.");
        House house = House.of("lexicon Z { b -> end; 0 -> Y; } letters a b; lexicon Root { a -> Y; a -> Z; } lexicon Y { b -> end; }");
        House.due("entries", house.it.count(5), 5);
        House.due("analyse ab", house.analyse("ab"), 3);
        int[][] ways = {{2, 4, -1, -1}, {3, 0, -1, -1}, {3, 1, 4, -1}};
        for (int k = 0; k < ways.length; k++) {
            for (int i = 0; i < 4; i++) {
                House.due("way(" + k + ", " + i + ")", house.it.way(k, i), ways[k][i]);
                House.due("candidate(" + k + ", " + (1 + i) + ")", house.it.candidate(k, 1 + i), ways[k][i]);
            }
        }
    }

    private static void laid(String structure, String written) {
        House house = new House();
        House.due("lay " + structure, house.lay(3, structure), 0);
        House.due("written", house.written(0, 3), written);
        House entry = House.of("letters a; lexicon Root { a -> end " + structure + "; }");
        entry.analyse("a");
        House.due("written as an ENTRY's", entry.written(1, 0), written);
    }

    private static void tagsOfOneEntry() {
        House.asks("all places of one TAG in an ENTRY are one node: the one that it is given by =, else an EMPTY one");
        laid("{a #1}", "{a {}}");
        laid("{a #1 b #1}", "{a #1={} b #1}");
        laid("{a #1 b #2}", "{a {} b {}}");
        laid("{a #1=x b #1}", "{a x b x}");
        laid("{a #1 b #1=x}", "{a x b x}");
        laid("{b #0 a #0={c d} }", "{a #1={c d} b #1}");
        laid("{a #9 b {c #9={}}}", "{a #1={} b {c #1}}");
        laid("{a #2 b #1 c #2 d #1}", "{a #1={} b #2={} c #1 d #2}");
        laid("{b #1={f #2} a #2={g #3} c #3=x}", "{a #1={g x} b {f #1} c x}");
        House two = House.of("letters a b; lexicon Root { a -> Next {f #1={h p} g #1}; } lexicon Next { b -> end {i #1={j q} k #1 f #2}; }");
        House.due("a TAG of another ENTRY is another node", two.analyse("ab"), 1);
        House.due("written", two.written(1, 0), "{f #1={h p} g #1 i #2={j q} k #2}");
    }

    private static void oneNodeForAll() {
        House.asks("To UNIFY two nodes: they become one, and whoever had one or the other has that");
        String[] rows = {
            "{a #1 b #1}", "{a #1 c #1}", "{a #1={} b #1 c #1}",
            "{a #1 b #1 c #2 d #2}", "{b #1 c #1}", "{a #1={} b #1 c #1 d #1}",
            "{a #1 b #1 c #2 d #2}", "{b #1=x c #1}", "{a x b x c x d x}",
            "{a #1={f #2} b #1 c #2}", "{b {f {g p}}}", "{a #1={f #2={g p}} b #1 c #2}",
            "{a {f {}} b {f p}}", "{a #1 b #1}", "{a #1={f p} b #1}",
            "{a {f #1} b {f #2} c #1 d #2}", "{a #1 b #1}", "{a #1={f #2={}} b #1 c #2 d #2}",
        };
        for (int k = 0; k < rows.length; k += 3) {
            House house = new House();
            house.lay(0, rows[k]);
            house.lay(1, rows[k + 1]);
            house.it.unify(0, 1, 2);
            House.due(rows[k] + " with " + rows[k + 1], house.written(0, 2), rows[k + 2]);
            house.it.unify(1, 0, 3);
            House.due(rows[k + 1] + " with " + rows[k], house.written(0, 3), rows[k + 2]);
            House.asks("(It is told of copies: nothing is changed by it.)");
            house.lay(4, rows[k]);
            House.due("the first stays", house.it.above(0, 4) + house.it.above(4, 0), 2);
            house.lay(4, rows[k + 1]);
            House.due("the second stays", house.it.above(1, 4) + house.it.above(4, 1), 2);
        }
    }

    /** Twenty features by numbers, each with a value. */
    private static String features(String name, String value) {
        StringBuilder s = new StringBuilder("{");
        for (int i = 10; i < 30; i++) {
            s.append(i > 10 ? " " : "").append(name).append(i).append(' ').append(value);
        }
        return s.append("}").toString();
    }

    private static void fortyEmptyNodes() {
        House.asks("the SIZE of what comes at last is at most 40: of a structure with 41 nodes that are no ATOMS");
        House house = new House();
        house.lay(0, features("f", "{}"));
        house.lay(1, features("g", "{}"));
        House.due("unify", house.it.unify(0, 1, 2), 40);
        House.due("written", house.written(0, 2), features("f", "{}").replace("}}", "} ") + features("g", "{}").substring(1));
        House.due("above itself", house.it.above(2, 2), 1);
        House.due("above its parts", house.it.above(2, 1) + house.it.above(2, 0), 0);
        House.due("below its parts", house.it.above(1, 2) + house.it.above(0, 2), 2);
        House.due("with itself", house.it.unify(2, 2, 3), 40);
        for (int last = 10; last < 30; last += 19) {
            for (String name : new String[] {"f", "g"}) {
                house.lay(4, "{" + name + last + " p}");
                House.due("an ATOM at " + name + last, house.it.unify(2, 4, 5), 40);
                House.due("above", house.it.above(4, 5), 1);
                House.due("not above", house.it.above(5, 2), 0);
                house.lay(4, "{" + name + last + " {h {}}}");
                House.due("a 41st FEATURE below " + name + last, house.it.unify(2, 4, 6), -1);
            }
        }
    }

    private static void twentyTags() {
        House.asks("#, its number (1, 2, .. as they first come): of twenty nodes that are shared");
        House house = new House();
        StringBuilder one = new StringBuilder("{");
        StringBuilder two = new StringBuilder("{");
        StringBuilder due = new StringBuilder("{");
        for (int i = 0; i < 10; i++) {
            one.append(" a").append(i).append(" #").append(i).append(" c").append(i).append(" #").append(i);
            two.append(" b").append(i).append(" #").append(i).append(" d").append(i).append(" #").append(i);
        }
        for (int i = 0; i < 20; i++) {
            due.append(i < 10 ? "a" + i : "b" + (i - 10)).append(" #").append(i + 1).append("={} ");
        }
        for (int i = 0; i < 20; i++) {
            due.append(i < 10 ? "c" + i : "d" + (i - 10)).append(" #").append(i + 1).append(i < 19 ? " " : "}");
        }
        house.lay(0, one + "}");
        house.lay(1, two + "}");
        House.due("unify", house.it.unify(0, 1, 2), 40);
        House.due("written", house.written(0, 2), due.toString());
    }

    private static void namesThatBeginOthers() {
        House.asks("NAMES: .. each FEATURE's NAME as it is told, one that begins another, too");
        // x0, x1 and x2 are no NAMES
        String signs = "3456789ABCDEFGHIJKLMNOPQRSTUVWXYZabcdefghijklmnopqrstuvwxyz";
        for (char first : signs.substring(7).toCharArray()) {
            for (int from = 0; from < signs.length(); from += 18) {
                StringBuilder told = new StringBuilder("{");
                StringBuilder due = new StringBuilder("{").append(first).append(" p");
                for (char sign : signs.substring(from, Math.min(from + 18, signs.length())).toCharArray()) {
                    told.append(first).append(sign).append(' ').append(first).append(sign).append("z ");
                    due.append(' ').append(first).append(sign).append(' ').append(first).append(sign).append('z');
                }
                House house = new House();
                House.due("lay", house.lay(0, told.append(first).append(" p}").toString()), 0);
                House.due("written", house.written(0, 0), due.append("}").toString());
            }
        }
    }

    private static void catAmongForty() {
        House.asks("READINGS .. whose structure's cat is the ATOM that start tells, wherever cat is told");
        for (int place = 0; place < 40; place++) {
            StringBuilder text = new StringBuilder("letters a b; grammar s -> s : x0 = x1; start s; lexicon Root { a -> Next {");
            for (int i = 0; i < 40; i++) {
                text.append(i == 20 ? "}; } lexicon Next { b -> end {" : " ").append(i == place ? "cat s" : "f" + i + " p");
            }
            House house = House.of(text.append("}; }").toString());
            house.sentence("ab");
            House.due("parse, cat at " + place, house.it.parse(), 2);
            House.due("trees", house.tree(0) + ", " + house.tree(1), "32[00], 0[00] 32[00]");
            House.due("SIZE", house.it.reading(0, 2) + house.it.reading(1, 2), 80);
        }
    }

    private static void copiesAlone() {
        House.asks("is put upon structures for x1 and x2, copies of these");
        House house = House.of("letters a; lexicon Root { a -> end {cat t f {}}; } start s; grammar s -> t t : x1.f = p, x0.f = x2.f;"
                + "grammar s -> t t : x2.f = q, x0.f = x1.f, x0.g = x2.f; grammar s -> t t : x1.f = x2.f, x0.f = x1.f, x0.g = x2.f;");
        house.sentence("a", "a");
        House.due("parse", house.it.parse(), 3);
        House.due("0", house.written(2, 0), "{cat s f {}}");
        House.due("1", house.written(2, 1), "{cat s f {} g q}");
        House.due("2", house.written(2, 2), "{cat s f #1={} g #1}");
        house.analyse("a");
        House.due("the ANALYSIS stays", house.written(1, 0), "{cat t f {}}");
        House.due("again", house.it.parse(), 3);
        House.due("0 again", house.written(2, 0), "{cat s f {}}");
    }

    private static void sixteenLetters() {
        House.asks("A row whose words, in order, are those of one that is KEPT: words of 16 LETTERS that differ in one");
        House house = House.of("letters a b c d e f g h i j k l m n; start s; lexicon Root { abcdef -> B {cat s}; } lexicon B { ghijkl -> C; }"
                + "lexicon C { mnnm -> end; }");
        String word = "abcdefghijklmnnm";
        house.word(0, word);
        House.due("parse", house.it.parse(), 1);
        House.due("worked", house.it.count(13), 1);
        for (int i = 0; i < 16; i++) {
            String other = word.substring(0, i) + (word.charAt(i) == 'a' ? 'n' : 'a') + word.substring(i + 1);
            house.word(0, other);
            House.due("parse " + other, house.it.parse(), 0);
            House.due("worked", house.it.count(13), 1);
            house.word(0, word);
            House.due("parse " + word, house.it.parse(), 1);
            House.due("not worked", house.it.count(13), 0);
        }
        House.due("kept", house.it.count(12), 17);
    }

    private static void wordsThatBeginOthers() {
        House.asks("A row whose words, in order, are those of one that is KEPT: words that begin one another");
        House house = House.of("letters a b; start s; lexicon Root { a -> Root {cat s}; a -> end {cat s}; b -> end {cat s}; }");
        StringBuilder word = new StringBuilder();
        for (int size = 1; size <= 16; size++) {
            house.word(0, word.append('a').toString());
            House.due("parse " + word, house.it.parse(), size <= 4 ? 1 : 0);
            House.due("worked", house.it.count(13), 1);
        }
        House.due("kept", house.it.count(12), 16);
        house.sentence("a", "aa");
        House.due("parse a aa", house.it.parse(), 0);
        House.due("worked", house.it.count(13), 1);
        house.sentence("aa", "a");
        House.due("parse aa a", house.it.parse(), 0);
        House.due("worked", house.it.count(13), 1);
        house.sentence("a", "ab");
        House.due("parse a ab", house.it.parse(), 0);
        House.due("worked", house.it.count(13), 2);
        House.due("kept", house.it.count(12), 20);
    }
}
