/** Promises 17 to 21: laying structures on the desk, unifying them, comparing them, writing them. */
public final class DeskTest {
    public static void main(String[] args) {
        lay();
        layFaults();
        unify();
        unifyFails();
        sizes();
        rings();
        above();
        write();
        House.close("DeskTest");
    }

    private static void laid(String structure, String written) {
        House house = new House();
        House.due("lay of " + structure, house.lay(3, structure), 0);
        House.due("what was laid", house.written(0, 3), written);
    }

    private static void lay() {
        laid("{}", "{}");
        laid(" % a note\n { b a a{ } }", "{a {} b a}");
        laid("{b c ab d a e B f a1 g}", "{B f a e a1 g ab d b c}");
        laid("{f #1 g #1}", "{f #1={} g #1}");
        laid("{f #1 g h}", "{f {} g h}");
        laid("{f #1=p g #1}", "{f p g p}");
        laid("{z #1={q r} a #1}", "{a #1={q r} z #1}");
        laid("{a #5 b #3={x #5} c #3}", "{a #1={} b #2={x #1} c #2}");
        laid("{a {b #0} c #0={d e}}", "{a {b #1={d e}} c #1}");
        House house = new House();
        House.due("lay(8)", house.tell("{f g}").it.lay(8), -1);
        House.due("the tape stays", house.it.count(9), 5);
        House.due("lay(-1)", house.it.lay(-1), -1);
        House.due("lay(7)", house.it.lay(7), 0);
        House.due("the tape is empty", house.it.count(9), 0);
        House.due("slot 7", house.written(0, 7), "{f g}");
    }

    private static void fault(int code, String marked) {
        House house = new House();
        house.lay(0, "{old one}");
        int place = marked.indexOf('^');
        House.due("lay of " + marked, house.lay(0, marked.replace("^", "")), code + 16L * place);
        House.due("the tape is empty", house.it.count(9), 0);
        House.due("the slot stays", house.written(0, 0), "{old one}");
    }

    private static void layFaults() {
        fault(1, "^");
        fault(1, "^f");
        fault(1, "{f g^");
        fault(1, "{f g} ^{}");
        fault(1, "{f ^set}");
        fault(1, "{f #1=^}");
        fault(1, "{f ^\0}");
        fault(2, "{f {f {f {f {f {f ^{}}}}}}}");
        fault(2, "{f ^#10}");
        fault(2, "{a p b p c p d p e p f p g p h p i p j p k p l p m p n p o p p p q p r p s p t p ^u p}");
        fault(3, "{f g h {f g ^f h} f h}");
        fault(3, "{f #1=p g ^#1=p}");
        fault(6, "   ^{f #1={f #1}}");
        fault(6, "^{f #1={g #2} h #2={g #1}}");
        fault(3, "{f #1={f #1} ^f p}");
        fault(1, "{f g f g^");
    }

    private static void unified(String one, String other, String due) {
        House house = new House();
        house.lay(0, one);
        house.lay(1, other);
        for (int turn = 0; turn < 2; turn++) {
            int size = house.it.unify(turn, 1 - turn, 2);
            House.due("unify " + one + " with " + other, house.written(0, 2), due);
            House.due("its size", size >= 0 ? 1 : 0, 1);
            House.due("the first stays", house.it.above(0, 0), 1);
        }
    }

    private static void unify() {
        unified("{}", "{f g}", "{f g}");
        unified("{f {}}", "{f g}", "{f g}");
        unified("{f g}", "{f g}", "{f g}");
        unified("{f {a p}}", "{f {b q}}", "{f {a p b q}}");
        unified("{f #1 g #1}", "{f p}", "{f p g p}");
        unified("{f #1 g #1}", "{f {a p} g {b q}}", "{f #1={a p b q} g #1}");
        unified("{f #1 g #1}", "{g #1 h #1}", "{f #1={} g #1 h #1}");
        unified("{f #1={a #2} g #1 h #2}", "{g {a {q r}}}", "{f #1={a #2={q r}} g #1 h #2}");
        House house = new House();
        house.lay(0, "{f #1 g #1}");
        house.lay(1, "{g {a p}}");
        House.due("SIZE counts each node once", house.it.unify(0, 1, 0), 3);
        House.due("in place", house.written(0, 0), "{f #1={a p} g #1}");
        House.due("with itself", house.it.unify(0, 0, 0), 3);
        House.due("unify(8, 0, 0)", house.it.unify(8, 0, 0), -1);
        House.due("unify(0, -1, 0)", house.it.unify(0, -1, 0), -1);
        House.due("unify(0, 0, 8)", house.it.unify(0, 0, 8), -1);
    }

    private static void fails(String one, String other) {
        House house = new House();
        house.lay(0, one);
        house.lay(1, other);
        house.lay(2, "{old one}");
        House.due("unify " + one + " with " + other, house.it.unify(0, 1, 2), -1);
        House.due("and back", house.it.unify(1, 0, 2), -1);
        House.due("nothing is changed", house.written(0, 2), "{old one}");
    }

    private static void unifyFails() {
        fails("{f g}", "{f h}");
        fails("{f g}", "{f {a p}}");
        fails("{f #1 g #1}", "{f p g q}");
        fails("{f #1 g #1}", "{f p g {a q}}");
        fails("{f {a p}}", "{f {a q}}");
    }

    private static void sizes() {
        StringBuilder one = new StringBuilder("{");
        StringBuilder two = new StringBuilder("{");
        for (int i = 0; i < 20; i++) {
            one.append("f").append(i).append(" p ");
            two.append("g").append(i).append(" p ");
        }
        House house = new House();
        house.lay(0, one + "}");
        house.lay(1, two + "}");
        house.lay(2, "{h p}");
        House.due("40 features", house.it.unify(0, 1, 3), 40);
        House.due("41 features", house.it.unify(3, 2, 4), -1);
        House.due("40 again", house.it.unify(3, 0, 4), 40);
        // 20 names of two signs, 20 of three, each with a blank and an atom, blanks between, braces
        House.due("write", house.it.write(0, 4), 20 * 2 + 20 * 3 + 40 * 2 + 39 + 2);
    }

    private static void rings() {
        fails("{f #1 g {h #1}}", "{f #1 g #1}");
        fails("{f #1={a #2} g #2}", "{f #1 g #1}");
        fails("{f #1={a #2} g #3={a #4} h #2 i #4}", "{f #1 i #1 g #2 h #2}");
        unified("{f #1={a #2} g #2}", "{f #1 h #1}", "{f #1={a #2={}} g #2 h #1}");
    }

    private static void aboveDue(String one, String other, int due, int back) {
        House house = new House();
        house.lay(0, one);
        house.lay(1, other);
        House.due(one + " above " + other, house.it.above(0, 1), due);
        House.due(other + " above " + one, house.it.above(1, 0), back);
    }

    private static void above() {
        aboveDue("{}", "{f g}", 1, 0);
        aboveDue("{f g}", "{f g}", 1, 1);
        aboveDue("{f g}", "{f h}", 0, 0);
        aboveDue("{f {}}", "{f h}", 1, 0);
        aboveDue("{f {a p}}", "{f h}", 0, 0);
        aboveDue("{f {} g {}}", "{f #1 g #1}", 1, 0);
        aboveDue("{f #1 g #1}", "{f p g p}", 1, 0);
        aboveDue("{f #1 g #1}", "{f p g q}", 0, 0);
        aboveDue("{f #1=p g #1}", "{f p g p}", 1, 1);
        aboveDue("{f #1={a p} g #1}", "{f {a p} g {a p}}", 0, 1);
        aboveDue("{f #1 g #1 h {i #1}}", "{f #1={j k} g #1 h {i #1}}", 1, 0);
        House house = new House();
        House.due("above(0, 8)", house.it.above(0, 8), -1);
        House.due("above(-1, 0)", house.it.above(-1, 0), -1);
    }

    private static void write() {
        House house = new House();
        House.due("octet before", house.it.octet(0), -1);
        house.lay(0, "{a #1 b #1 c #2 d #2 e #3 f #3 g #4 h #4 i #5 j #5 k #6 l #6 m #7 n #7 o #8 p #8 q #9 r #9 s #0 t #0}");
        House.due("ten tags", house.written(0, 0), "{a #1={} b #1 c #2={} d #2 e #3={} f #3 g #4={} h #4 i #5={} j #5"
                + " k #6={} l #6 m #7={} n #7 o #8={} p #8 q #9={} r #9 s #10={} t #10}");
        House.due("octet(-1)", house.it.octet(-1), -1);
        House.due("octet(max)", house.it.octet(Integer.MAX_VALUE), -1);
        House.due("write(0, 8)", house.it.write(0, 8), -1);
        House.due("write(0, -1)", house.it.write(0, -1), -1);
        House.due("write(3, 0)", house.it.write(3, 0), -1);
        House.due("write(-1, 0)", house.it.write(-1, 0), -1);
        House.due("write(1, 0)", house.it.write(1, 0), -1);
        House.due("write(2, 0)", house.it.write(2, 0), -1);
        House.due("what was written stays", house.it.octet(1), 'a');
        House.due("write(0, 1)", house.it.write(0, 1), 2);
        House.due("octet(2)", house.it.octet(2), -1);
        House deep = new House();
        deep.lay(0, "{a {a {a {a {a {x #1}}}}} y #1}");
        deep.lay(1, "{y {a {a {a {a {a {}}}}}}}".replace("{a {}}", "{z #1}").replace("}}}}}}", "}}}}} w #1}"));
        House.due("deep ones", deep.it.unify(0, 1, 2) > 0 ? 1 : 0, 1);
        House.due("a chain", deep.written(0, 2),
                "{a {a {a {a {a {x #1={a {a {a {a {z #2={}}}}}}}}}}} w #2 y #1}");
    }
}
