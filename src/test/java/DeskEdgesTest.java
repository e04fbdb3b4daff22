import java.util.function.IntFunction;

/** Promises 17 to 21 at their edges. */
public final class DeskEdgesTest {
    private static final int[] NO_SLOTS = {-1, 8, 9, 100, Integer.MIN_VALUE, Integer.MAX_VALUE};

    public static void main(String[] args) {
        laySlots();
        layRefused();
        layLimits();
        layFaultsInOrder();
        layIsNoText();
        unifySlots();
        unifyInPlace();
        unifyOfForty();
        unifySharedSizes();
        unifyFails();
        unifyRings();
        slotsUsedAgain();
        deskBehindFailures();
        aboveSlots();
        aboveOfAtoms();
        aboveOfSharedNodes();
        emptyIsAboveAll();
        writeSlots();
        writeOfOthers();
        writtenNames();
        writtenTags();
        writtenLongest();
        writtenDeepest();
        writeRefused();
        octetNumbers();
        House.close("DeskEdgesTest");
    }

    private static void laySlots() {
        House.asks("17: slot 0 to 7 of the desk becomes it: 0");
        House house = new House();
        for (int slot = 0; slot < 8; slot++) {
            House.due("lay(" + slot + ")", house.lay(slot, "{s" + slot + " p}"), 0);
            House.due("it is empty then", house.it.count(9), 0);
        }
        for (int slot = 0; slot < 8; slot++) {
            House.due("slot " + slot, house.written(0, slot), "{s" + slot + " p}");
        }
        House.due("lay(0) again", house.lay(0, "{}"), 0);
        House.due("slot 0", house.written(0, 0), "{}");
        House.due("slot 1", house.written(0, 1), "{s1 p}");
    }

    private static void layRefused() {
        House.asks("17: NONE, and the tape stays: no such slot.");
        House house = new House();
        house.lay(0, "{a p}");
        house.lay(7, "{b p}");
        house.tell("{f g}");
        for (int slot : NO_SLOTS) {
            House.due("lay(" + slot + ")", house.it.lay(slot), -1);
            House.due("the tape stays", house.it.count(9), 5);
        }
        House.due("slot 0", house.written(0, 0), "{a p}");
        House.due("slot 7", house.written(0, 7), "{b p}");
        House.due("lay(1)", house.it.lay(1), 0);
        House.due("slot 1", house.written(0, 1), "{f g}");
        House.due("lay(8) of a fault", house.tell("{f").it.lay(8), -1);
        House.due("the tape stays", house.it.count(9), 2);
        House.due("lay(-1) of nothing", new SentenceHouse().lay(-1), -1);
    }

    /** A structure whose fault is due at the sign ^; the slot stays. */
    private static void fault(int code, String marked) {
        House house = new House();
        house.lay(5, "{old {f one}}");
        House.due("lay of " + marked, house.lay(5, marked.replace("^", "")), code + 16L * marked.indexOf('^'));
        House.due("the tape is empty", house.it.count(9), 0);
        House.due("the slot stays", house.written(0, 5), "{old {f one}}");
    }

    private static void fine(String structure) {
        House.due("lay of " + structure, new House().lay(0, structure), 0);
    }

    private static void limit(int most, IntFunction<String> structure) {
        for (int n = 1; n <= most; n++) {
            fine(structure.apply(n).replace("^", ""));
        }
        fault(2, structure.apply(most + 1));
    }

    /** So many features, with something behind each name, the last one marked. */
    private static String features(int n, String value) {
        StringBuilder s = new StringBuilder("{");
        for (int i = 0; i < n; i++) {
            s.append(i == n - 1 ? " ^f" : " f").append(i).append(' ').append(value);
        }
        return s + "}";
    }

    private static void layLimits() {
        House.asks("17: FAULTS 1, 2 as of an ENTRY");
        limit(20, n -> features(n, "p"));
        limit(20, n -> features(n, "{}"));
        limit(20, n -> features(n, "#9"));
        limit(6, n -> "{f ".repeat(n - 1) + "^{" + "}".repeat(n));
        for (int tag = 0; tag <= 9; tag++) {
            fine("{f #" + tag + "=p}");
        }
        fault(2, "{f ^#10}");
        fault(2, "{f ^#10=p}");
        fault(2, "{f ^#999}");
        fault(1, "{f #^1000}");
        fault(1, "{abcdefghijkl ^abcdefghijklm}");
        fine("{abcdefghijkl abcdefghijkl}");
    }

    private static void layFaultsInOrder() {
        House.asks("17: FAULTS 1, 2 as of an ENTRY, then 3, then 6");
        fault(1, "^");
        fault(1, "  % note\n^");
        fault(1, "^}");
        fault(1, "^p");
        fault(1, "^#1={}");
        fault(1, "^\0");
        fault(1, "{^");
        fault(1, "{} ^;");
        fault(1, "{} ^{}");
        fault(1, "{} ^}");
        fault(1, "{f p}^\0");
        fault(1, "{f p f p g #1={g #1}^");
        fault(2, "{f p f p g #1={g #1} h ^#10}");
        fault(3, "{g #1={g #1} f p ^f p}");
        fault(3, "{g #1={g #1} f ^#1=p}");
        fault(6, "^{g #1={g #1} f p}");
        fault(6, " % note\n ^{f {g #1={h #1}}}");
        fault(3, "{f p ^f p g p g p}");
        fault(1, "{f ^end}");
        fault(1, "{^x0 p}");
        fine("{f #1={g #2} h #2={i #3} j #3}");
        fine(" \t\r\n{ } % behind");
    }

    private static void layIsNoText() {
        House.asks("17: The tape is read as a STRUCTURE (by the tokens of the text");
        House house = House.of("letters a; lexicon Root { a -> end {g p}; } start s;");
        house.sentence("a");
        House.due("lay", house.lay(0, "{f {} g p}"), 0);
        int[] due = {1, 1, 0, 0, 1, 1, 0, 1, 0, 0, 1, 0, 0, 0};
        for (int what = 0; what < due.length; what++) {
            House.due("count(" + what + ")", house.it.count(what), due[what]);
        }
        House.due("the same TAG in two structures", house.lay(1, "{f #1=p}"), 0);
        House.due("the same TAG in two structures", house.lay(2, "{f #1=q}"), 0);
        House.due("slot 1", house.written(0, 1), "{f p}");
    }

    private static void unifySlots() {
        House.asks("18: NONE, and nothing is changed, if they can't be, or one is no slot.");
        House house = new House();
        house.lay(0, "{a p}");
        house.lay(7, "{b p}");
        for (int slot : NO_SLOTS) {
            House.due("unify(" + slot + ", 0, 1)", house.it.unify(slot, 0, 1), -1);
            House.due("unify(0, " + slot + ", 1)", house.it.unify(0, slot, 1), -1);
            House.due("unify(0, 7, " + slot + ")", house.it.unify(0, 7, slot), -1);
            House.due("unify of no slots", house.it.unify(slot, slot, slot), -1);
        }
        House.due("slot 0", house.written(0, 0), "{a p}");
        House.due("slot 1", house.written(0, 1), "{}");
        House.due("slot 7", house.written(0, 7), "{b p}");
        House.due("unify(0, 7, 7)", house.it.unify(0, 7, 7), 2);
        House.due("slot 7", house.written(0, 7), "{a p b p}");
        House.due("slot 0 stays", house.written(0, 0), "{a p}");
    }

    private static void unifyInPlace() {
        House.asks("18: Slot c becomes what comes of the structures of a and b, unified: its SIZE");
        House house = new House();
        House.due("EMPTY with EMPTY", house.it.unify(0, 1, 2), 0);
        house.lay(0, "{f #1 g #1}");
        house.lay(1, "{f {h p}}");
        House.due("with itself, into itself", house.it.unify(0, 0, 0), 2);
        House.due("slot 0", house.written(0, 0), "{f #1={} g #1}");
        House.due("with EMPTY", house.it.unify(3, 1, 3), 2);
        House.due("slot 3", house.written(0, 3), "{f {h p}}");
        House.due("into the first", house.it.unify(0, 1, 0), 3);
        House.due("slot 0", house.written(0, 0), "{f #1={h p} g #1}");
        House.due("slot 1 stays", house.written(0, 1), "{f {h p}}");
        House.due("into the second", house.it.unify(0, 1, 1), 3);
        House.due("slot 1", house.written(0, 1), "{f #1={h p} g #1}");
        House.due("slots share nothing", house.lay(0, "{f q}"), 0);
        House.due("slot 1 stays", house.written(0, 1), "{f #1={h p} g #1}");
    }

    private static void unifyOfForty() {
        House.asks("the SIZE of what comes at last is at most 40.");
        House house = new House();
        house.lay(0, features(20, "p").replace("^", ""));
        house.lay(1, features(19, "p").replace("^", "").replace("f", "g"));
        house.lay(2, "{h p}");
        house.lay(3, "{i p}");
        House.due("39", house.it.unify(0, 1, 4), 39);
        House.due("40", house.it.unify(4, 2, 5), 40);
        House.due("40 with what it has", house.it.unify(5, 2, 5), 40);
        House.due("40 with itself", house.it.unify(5, 5, 5), 40);
        House.due("41", house.it.unify(5, 3, 6), -1);
        House.due("41", house.it.unify(3, 5, 6), -1);
        House.due("41 into itself", house.it.unify(5, 3, 5), -1);
        House.due("slot 6 stays", house.written(0, 6), "{}");
        House.due("slot 5 stays", house.it.unify(5, 5, 5), 40);
        house.lay(6, "{h {}}");
        House.due("an EMPTY one and an ATOM", house.it.unify(5, 6, 5), 40);
        house.lay(6, "{h {j p}}");
        House.due("an ATOM and one with FEATURES", house.it.unify(5, 6, 5), -1);
        House.due("39 and one below", house.it.unify(4, 6, 7), -1);
        house.lay(6, "{h {}}");
        House.due("39 and EMPTY", house.it.unify(4, 6, 7), 40);
        house.lay(6, "{h {j p}}");
        House.due("40 and one below", house.it.unify(7, 6, 7), -1);
        // two halves of 40 each, all alike: 40 again
        House.due("40 with 40", house.it.unify(5, 7, 6), 40);
    }

    private static void unifySharedSizes() {
        House.asks("Its SIZE is how many FEATURES it and all nodes below have, each node counted once.");
        House house = new House();
        house.lay(0, "{a #1={x p y p z p} b #1 c #1 d {e #1}}");
        House.due("a node counted once", house.it.unify(0, 0, 0), 8);
        house.lay(1, "{a {x p y p z p} b {x p y p z p}}");
        House.due("two nodes", house.it.unify(1, 1, 1), 8);
        house.lay(2, "{a #1 b #1}");
        House.due("that become one", house.it.unify(1, 2, 3), 5);
        House.due("slot 3", house.written(0, 3), "{a #1={x p y p z p} b #1}");
        // four of five features each, 42 with a half on both sides, 22 once they are one
        String nest = "{a {p p q p r p s p} b {p p q p r p s p} c {p p q p r p s p} d {p p}}";
        house.lay(4, nest);
        House.due("17 features", house.it.unify(4, 4, 4), 17);
        house.lay(5, "{e {a {p p q p r p s p} b {p p q p r p s p} c {p p q p r p s p} d {p p}}}");
        house.lay(6, "{f {a {p p q p r p s p} b {p p q p r p s p} c {p p q p r p s p} d {p p}}}");
        House.due("36 features", house.it.unify(5, 6, 5), 36);
        house.lay(6, "{g {a p b p c p d p}}");
        House.due("41 features", house.it.unify(5, 6, 7), -1);
        house.lay(6, "{e #1 f #1 g {a p b p c p d p}}");
        House.due("once e and f are one", house.it.unify(5, 6, 7), 24);
    }

    private static void fails(String one, String other) {
        House house = new House();
        house.lay(0, one);
        house.lay(1, other);
        String first = house.written(0, 0);
        String second = house.written(0, 1);
        House.due("unify " + one + " with " + other, house.it.unify(0, 1, 2), -1);
        House.due("and back", house.it.unify(1, 0, 2), -1);
        House.due("into the first", house.it.unify(0, 1, 0), -1);
        House.due("into the second", house.it.unify(0, 1, 1), -1);
        House.due("nothing is changed", house.written(0, 0), first);
        House.due("nothing is changed", house.written(0, 1), second);
        House.due("nothing is changed", house.written(0, 2), "{}");
    }

    private static void unifyFails() {
        House.asks("It FAILS: of an ATOM with another ATOM or with one that has FEATURES");
        fails("{f p}", "{f q}");
        fails("{f p}", "{f P}");
        fails("{f p}", "{f pp}");
        fails("{f p}", "{f {g p}}");
        fails("{f p}", "{f {g {}}}");
        fails("{f #1 g #1}", "{f p g q}");
        fails("{f #1 g #1}", "{f p g {h {}}}");
        fails("{a p b {c {d {e p}}}}", "{z p b {c {d {e q}}}}");
        House house = new House();
        house.lay(0, "{f p g {}}");
        house.lay(1, "{f {} g p}");
        House.due("an EMPTY one and any: that", house.it.unify(0, 1, 2), 2);
        House.due("slot 2", house.written(0, 2), "{f p g p}");
    }

    private static void unifyRings() {
        House.asks("It FAILS: .. where a node would lie within itself.");
        fails("{f #1={g #2} h #2}", "{f #1 h #1}");
        fails("{f #1={g #2} h #2={g #3} i #3}", "{f #1 i #1}");
        fails("{f {g #1} h #1}", "{f #1 h #1}");
        fails("{f #1={g #2} h #2 i #3={g #4} j #4}", "{f #1 j #1 i #2 h #2}");
        House house = new House();
        house.lay(0, "{f #1={g #2} h #2}");
        house.lay(1, "{f #1 h {i #3} j #3}");
        House.due("no ring", house.it.unify(0, 1, 2), 5);
        House.due("slot 2", house.written(0, 2), "{f {g #1={i #2={}}} h #1 j #2}");
    }

    private static void slotsUsedAgain() {
        House.asks("17: slot 0 to 7 of the desk becomes it");
        House house = new House();
        String[] large = {"{a p b q c r d s}", "{a #1={x p} b #1 c #1 d #1}", "{a {b {c {d p}}}}", "{d {} c {} b {} a {}}"};
        String[] small = {"{}", "{a p}", "{b q}", "{c {}}", "{d {a p}}"};
        for (String first : large) {
            for (String then : small) {
                house.lay(0, first);
                house.lay(0, then);
                House fresh = new House();
                fresh.lay(0, then);
                House.due("written", house.written(0, 0), then);
                for (String other : new String[] {"{a p}", "{a {}}", "{b q}", "{c r}", "{d {}}", "{a #1 b #1}"}) {
                    house.lay(1, other);
                    fresh.lay(1, other);
                    House.due(other + " above " + then, house.it.above(1, 0), fresh.it.above(1, 0));
                    House.due(then + " above " + other, house.it.above(0, 1), fresh.it.above(0, 1));
                }
            }
            house = new House();
        }
    }

    private static void deskBehindFailures() {
        House.asks("18: NONE, and nothing is changed, if they can't be");
        House house = new House();
        house.lay(0, "{f #1={g #2} h #2}");
        house.lay(1, "{f #1 h #1}");
        house.lay(2, "{f p}");
        for (int turn = 0; turn < 40; turn++) {
            House.due("a ring", house.it.unify(0, 1, 3), -1);
            House.due("lay", house.lay(3, "{f #1 g #1 h {i j}}"), 0);
            House.due("two ATOMS", house.it.unify(0, 2, 3), -1);
            House.due("unify", house.it.unify(3, 3, 4), 4);
            House.due("above", house.it.above(3, 4), 1);
        }
        House.due("written", house.written(0, 4), "{f #1={} g #1 h {i j}}");
    }

    private static void aboveSlots() {
        House.asks("19: NONE: one is no slot.");
        SentenceHouse x = new SentenceHouse();
        for (int slot : NO_SLOTS) {
            House.due("above(" + slot + ", 0)", x.above(slot, 0), -1);
            House.due("above(7, " + slot + ")", x.above(7, slot), -1);
            House.due("above of no slots", x.above(slot, slot), -1);
        }
        for (int slot = 0; slot < 8; slot++) {
            House.due("above(" + slot + ", 0)", x.above(slot, 0), 1);
            House.due("above(0, " + slot + ")", x.above(0, slot), 1);
        }
    }

    private static void above(String one, String other, int due, int back) {
        House house = new House();
        house.lay(0, one);
        house.lay(1, other);
        House.due(one + " above " + other, house.it.above(0, 1), due);
        House.due(other + " above " + one, house.it.above(1, 0), back);
        House.due("above itself", house.it.above(0, 0) + house.it.above(1, 1), 2);
    }

    private static void aboveOfAtoms() {
        House.asks("where A's is an ATOM so is B's, the same; where A has a FEATURE so has B");
        above("{f p}", "{f p}", 1, 1);
        above("{f p}", "{f q}", 0, 0);
        above("{f p}", "{f {}}", 0, 1);
        above("{f p}", "{f {g p}}", 0, 0);
        above("{f p}", "{g p}", 0, 0);
        above("{f p}", "{f p g p}", 1, 0);
        above("{f {g p}}", "{f {g p h p}}", 1, 0);
        above("{f {g {}}}", "{f p}", 0, 0);
        above("{f {}}", "{f {g {h p}}}", 1, 0);
    }

    private static void aboveOfSharedNodes() {
        House.asks("where two ways down from A come to one node that is no ATOM, they come to one in B (ATOMS of one NAME are one)");
        above("{f #1 g #1}", "{f {} g {}}", 0, 1);
        above("{f #1 g #1}", "{f p g p}", 1, 0);
        above("{f #1 g #1}", "{f p g q}", 0, 0);
        above("{f #1={h p} g #1}", "{f {h p} g {h p}}", 0, 1);
        above("{f #1=p g #1}", "{f p g p}", 1, 1);
        above("{f #1 g #1}", "{f #1 g #1 h #1}", 1, 0);
        above("{f #1 g #1 h #2 i #2}", "{f #1 g #1 h #1 i #1}", 1, 0);
        above("{f #1 g {h #1}}", "{f {h p} g {h p}}", 0, 0);
        above("{f #1 g {h #1}}", "{f p g {h p}}", 1, 0);
        above("{f #1={k #2} g #1 h #2}", "{f #1={k #2={l p}} g #1 h #2}", 1, 0);
        above("{f #1={k #2} g #1 h #2}", "{f #1={k {l p}} g #1 h {l p}}", 0, 0);
    }

    private static void emptyIsAboveAll() {
        House.asks("A is ABOVE B, if B has all that A has");
        above("{}", "{}", 1, 1);
        above("{}", "{f {}}", 1, 0);
        above("{}", "{f #1={f p} g #1}", 1, 0);
    }

    private static void writeSlots() {
        House.asks("20: what 0: of slot k; NONE, and what was written stays, if there is none such.");
        House house = new House();
        house.lay(0, "{f p}");
        house.lay(7, "{g {}}");
        House.due("write(0, 0)", house.it.write(0, 0), 5);
        for (int slot : NO_SLOTS) {
            House.due("write(0, " + slot + ")", house.it.write(0, slot), -1);
            House.due("what was written stays", house.it.octet(1), 'f');
            House.due("what was written stays", house.it.octet(5), -1);
        }
        House.due("write(0, 7)", house.written(0, 7), "{g {}}");
        House.due("write(0, 1), the EMPTY one", house.written(0, 1), "{}");
        House.due("octet(0)", house.it.octet(0), '{');
        House.due("octet(1)", house.it.octet(1), '}');
        House.due("octet(2)", house.it.octet(2), -1);
    }

    private static void writeOfOthers() {
        House.asks("20: 1: of ANALYSIS k of the latest analyse(); 2: of READING k of the latest parse(). NONE .. if there is none such.");
        House house = House.of("letters a b; lexicon Root { a -> end {cat s f p}; a -> end {cat s f q}; a -> end; b -> end {cat t}; } start s;");
        House.due("write(1, 0) before", house.it.write(1, 0), -1);
        House.due("write(2, 0) before", house.it.write(2, 0), -1);
        House.due("octet(0) before", house.it.octet(0), -1);
        House.due("analyse()", house.analyse("a"), 3);
        house.sentence("a");
        House.due("parse()", house.it.parse(), 2);
        House.due("write(1, 0)", house.written(1, 0), "{cat s f p}");
        House.due("write(1, 2)", house.written(1, 2), "{}");
        House.due("write(2, 0)", house.written(2, 0), "{cat s f p}");
        House.due("write(2, 1)", house.written(2, 1), "{cat s f q}");
        int[][] wrong = {{1, -1}, {1, 3}, {1, 4}, {2, -1}, {2, 2}, {2, 3}, {1, Integer.MAX_VALUE}, {2, Integer.MAX_VALUE},
            {1, Integer.MIN_VALUE}, {2, Integer.MIN_VALUE}, {-1, 0}, {3, 0}, {4, 0}, {Integer.MIN_VALUE, 0}, {Integer.MAX_VALUE, 0}};
        for (int[] w : wrong) {
            House.due("write(" + w[0] + ", " + w[1] + ")", house.it.write(w[0], w[1]), -1);
            House.due("what was written stays", house.it.octet(9), 'q');
            House.due("what was written stays", house.it.octet(11), -1);
        }
        House.due("analyse() of b", house.analyse("b"), 1);
        House.due("write(1, 1)", house.it.write(1, 1), -1);
        House.due("write(2, 1) stays", house.written(2, 1), "{cat s f q}");
        house.sentence("b");
        House.due("parse() of b", house.it.parse(), 0);
        House.due("write(2, 0)", house.it.write(2, 0), -1);
        House.due("write(1, 0) stays", house.written(1, 0), "{cat t}");
    }

    private static void laid(String structure, String written) {
        House house = new House();
        House.due("lay of " + structure, house.lay(3, structure), 0);
        House.due("what was laid", house.written(0, 3), written);
    }

    private static void writtenNames() {
        House.asks("its FEATURES by the order of their NAMES (by bytes, the shorter one first where it begins the other)");
        laid("{b p a p}", "{a p b p}");
        laid("{ab p a p abc p}", "{a p ab p abc p}");
        laid("{a p Z p z p A p}", "{A p Z p a p z p}");
        laid("{a1 p aA p aa p a p a0 p a9 p}", "{a p a0 p a1 p a9 p aA p aa p}");
        laid("{abcdefghijkl p abcdefghijk p abcdefghijkk p}", "{abcdefghijk p abcdefghijkk p abcdefghijkl p}");
        laid("{b {b p a p} a {}}", "{a {} b {a p b p}}");
        laid("{}", "{}");
        laid("{f {}}", "{f {}}");
    }

    private static void writtenTags() {
        House.asks("A node that is no ATOM and to which more than one FEATURE leads is #, its number (1, 2, .. as they first come), =, "
                + "and itself, where it comes first, then # and its number alone.");
        laid("{f #1}", "{f {}}");
        laid("{f #9 g #9}", "{f #1={} g #1}");
        laid("{f #9=p g #9}", "{f p g p}");
        laid("{f #2={g p} h #2 i #2}", "{f #1={g p} h #1 i #1}");
        laid("{z #1 y #1 x #2 w #2}", "{w #1={} x #1 y #2={} z #2}");
        laid("{a #1={b #2 c #2} d #1}", "{a #1={b #2={} c #2} d #1}");
        laid("{a {b #1} c #1={d #2} e #2}", "{a {b #1={d #2={}}} c #1 e #2}");
        // ten shared nodes and two more by unifying: the numbers go on to 12
        House house = new House();
        house.lay(0, "{a #0 aa #0 b #1 bb #1 c #2 cc #2 d #3 dd #3 e #4 ee #4 f #5 ff #5 g #6 gg #6 h #7 hh #7 i #8 ii #8 j #9 jj #9}");
        house.lay(1, "{k #1 kk #1 l #2 ll #2}");
        House.due("unify", house.it.unify(0, 1, 2), 24);
        House.due("written", house.written(0, 2), "{a #1={} aa #1 b #2={} bb #2 c #3={} cc #3 d #4={} dd #4 e #5={} ee #5 f #6={} ff #6 "
                + "g #7={} gg #7 h #8={} hh #8 i #9={} ii #9 j #10={} jj #10 k #11={} kk #11 l #12={} ll #12}");
    }

    private static void writtenLongest() {
        House.asks("20: A structure is WRITTEN: how many bytes that is.");
        House house = new House();
        for (int slot = 0; slot < 4; slot++) {
            StringBuilder s = new StringBuilder("{");
            for (int i = 0; i < 10; i++) {
                s.append("abcdefghij").append(slot).append(i).append(" abcdefghijkl ");
            }
            House.due("lay", house.lay(slot, s + "}"), 0);
        }
        house.it.unify(0, 1, 0);
        house.it.unify(2, 3, 2);
        House.due("unify", house.it.unify(0, 2, 4), 40);
        // 40 names and atoms of 12, a blank each, 39 between, two braces
        House.due("write", house.it.write(0, 4), 40 * 25 + 39 + 2);
        House.due("the last octet", house.it.octet(1040), '}');
        House.due("the one ahead of it", house.it.octet(1039), 'l');
        House.due("none behind", house.it.octet(1041), -1);
        // deeper than one ENTRY can tell: 5 braces below the 5th one, and 5 below those
        House deep = new House();
        deep.lay(0, "{z #1 f {f {f {f {f #1}}}}}");
        House.due("written", deep.written(0, 0), "{f {f {f {f {f #1={}}}}} z #1}");
        deep.lay(1, "{y #1 z {f {f {f {f {f #1}}}}}}");
        House.due("unify", deep.it.unify(0, 1, 2), 12);
        deep.lay(1, "{y {f {f {f {f {f p}}}}}}");
        House.due("unify", deep.it.unify(2, 1, 2), 17);
        House.due("written", deep.written(0, 2), "{f {f {f {f {f #1={f {f {f {f {f #2={f {f {f {f {f p" + "}".repeat(14) + " y #2 z #1}");
    }

    /** Six chains of five features each, every one hung below the one ahead of it. */
    private static void writtenDeepest() {
        House.asks("WRITTEN: .. else {, its FEATURES .. each its NAME, a blank, its node");
        String chain = "{f {f {f {f {f #";
        House house = new House();
        house.lay(0, "{a " + chain + "1}}}}} b #1=" + chain + "2}}}}} c #2=" + chain + "3}}}}} d #3}");
        house.lay(1, "{d " + chain + "1}}}}} e #1=" + chain + "2}}}}} g #2={f {f {f {f {f p}}}}}}");
        House.due("unify", house.it.unify(0, 1, 2), 36);
        StringBuilder due = new StringBuilder("{a ");
        for (int n = 1; n <= 5; n++) {
            due.append(chain).append(n).append('=');
        }
        due.append("{f {f {f {f {f p").append("}".repeat(30)).append(" b #1 c #2 d #3 e #4 g #5}");
        House.due("written", house.written(0, 2), due.toString());
    }

    private static void writeRefused() {
        House.asks("20: NONE, and what was written stays, if there is none such.");
        House house = new House();
        House.due("write(0, 8) first", house.it.write(0, 8), -1);
        House.due("octet(0)", house.it.octet(0), -1);
        house.lay(2, "{f g}");
        House.due("write(0, 2)", house.written(0, 2), "{f g}");
        house.lay(2, "{h {}}");
        House.due("lay() does not write", house.it.octet(1), 'f');
        house.it.unify(2, 2, 2);
        House.due("unify() does not write", house.it.octet(1), 'f');
        House.due("write(3, 0)", house.it.write(3, 0), -1);
        House.due("octet(1)", house.it.octet(1), 'f');
        House.due("a text", house.read("lexicon Root { }"), 0);
        House.due("read() does not write", house.it.octet(1), 'f');
        House.due("write(1, 0)", house.it.write(1, 0), -1);
        House.due("write(2, 0)", house.it.write(2, 0), -1);
        House.due("octet(1)", house.it.octet(1), 'f');
    }

    private static void octetNumbers() {
        House.asks("21: Byte i of what was written; NONE if there is none.");
        House house = new House();
        for (int i : new int[] {-1, 0, 1, Integer.MIN_VALUE, Integer.MAX_VALUE}) {
            House.due("octet(" + i + ") before", house.it.octet(i), -1);
        }
        house.lay(0, "{Az09 z}");
        House.due("write", house.it.write(0, 0), 8);
        String due = "{Az09 z}";
        for (int i = 0; i < 8; i++) {
            House.due("octet(" + i + ")", house.it.octet(i), due.charAt(i));
        }
        for (int i : new int[] {-1, -2, 8, 9, 1199, 1200, 1201, Integer.MIN_VALUE, Integer.MAX_VALUE}) {
            House.due("octet(" + i + ")", house.it.octet(i), -1);
        }
        House.due("write of a shorter one", house.it.write(0, 1), 2);
        House.due("octet(1)", house.it.octet(1), '}');
        House.due("octet(2)", house.it.octet(2), -1);
    }
}
