/** The class and the oracle, called side by side; every answer that differs is printed. */
final class Twins {
    private static int wrong;

    private final SentenceHouse house = new SentenceHouse();
    private final Oracle oracle = new Oracle();
    private final String label;
    private final StringBuilder calls = new StringBuilder();

    Twins(String label) {
        this.label = label;
    }

    static int wrong() {
        return wrong;
    }

    private long same(String call, long got, long due) {
        calls.append("  ").append(call).append(" -> ").append(due).append('\n');
        if (got != due) {
            wrong++;
            if (wrong <= 5) {
                System.out.println(label + ": " + call + " answered " + got + ", the oracle " + due + "\n" + calls);
            }
        }
        return due;
    }

    /** Feeds any number of bytes, 20 at a time, and takes back what is too much. */
    void tell(String s) {
        calls.append("  tape ").append(s).append('\n');
        for (int i = 0; i < s.length(); i += 20) {
            int[] v = new int[5];
            for (int j = 0; j < 20; j++) {
                int c = i + j < s.length() ? s.charAt(i + j) : 32;
                v[j / 4] |= (c & 255) << 24 - 8 * (j % 4);
            }
            same("feed", house.feed(v[0], v[1], v[2], v[3], v[4]), oracle.feed(v[0], v[1], v[2], v[3], v[4]));
        }
        int over = (20 - s.length() % 20) % 20;
        back(over);
    }

    int pairCount() {
        return oracle.pairCount();
    }

    long back(int n) {
        return same("back(" + n + ")", house.back(n), oracle.back(n));
    }

    long read() {
        return same("read()", house.read(), oracle.read());
    }

    long count(int what) {
        return same("count(" + what + ")", house.count(what), oracle.count(what));
    }

    long holds() {
        return same("holds()", house.holds(), oracle.holds());
    }

    long rule(int r) {
        return same("rule(" + r + ")", house.rule(r), oracle.rule(r));
    }

    long differ(int r, int s) {
        return same("differ(" + r + ", " + s + ")", house.differ(r, s), oracle.differ(r, s));
    }

    long forms() {
        return same("forms()", house.forms(), oracle.forms());
    }

    long form(int k, int i) {
        return same("form(" + k + ", " + i + ")", house.form(k, i), oracle.form(k, i));
    }

    long analyse() {
        return same("analyse()", house.analyse(), oracle.analyse());
    }

    long way(int k, int i) {
        return same("way(" + k + ", " + i + ")", house.way(k, i), oracle.way(k, i));
    }

    long candidate(int c, int what) {
        return same("candidate(" + c + ", " + what + ")", house.candidate(c, what), oracle.candidate(c, what));
    }

    long candidates() {
        return same("candidates()", house.candidates(), oracle.candidates());
    }

    long near() {
        return same("near()", house.near(), oracle.near());
    }

    long nearby(int k, int i) {
        return same("nearby(" + k + ", " + i + ")", house.nearby(k, i), oracle.nearby(k, i));
    }

    long lay(int slot) {
        return same("lay(" + slot + ")", house.lay(slot), oracle.lay(slot));
    }

    long unify(int a, int b, int c) {
        return same("unify(" + a + ", " + b + ", " + c + ")", house.unify(a, b, c), oracle.unify(a, b, c));
    }

    long above(int a, int b) {
        return same("above(" + a + ", " + b + ")", house.above(a, b), oracle.above(a, b));
    }

    /** Writes, and compares every byte of what was written. */
    long write(int what, int k) {
        long length = same("write(" + what + ", " + k + ")", house.write(what, k), oracle.write(what, k));
        for (int i = -1; i <= length + 1; i++) {
            octet(i);
        }
        return length;
    }

    long octet(int i) {
        return same("octet(" + i + ")", house.octet(i), oracle.octet(i));
    }

    long word(int i) {
        return same("word(" + i + ")", house.word(i), oracle.word(i));
    }

    long insert(int i) {
        return same("insert(" + i + ")", house.insert(i), oracle.insert(i));
    }

    long remove(int i) {
        return same("remove(" + i + ")", house.remove(i), oracle.remove(i));
    }

    long parse() {
        return same("parse()", house.parse(), oracle.parse());
    }

    long reading(int k, int what) {
        return same("reading(" + k + ", " + what + ")", house.reading(k, what), oracle.reading(k, what));
    }

    long node(int k, int i, int what) {
        return same("node(" + k + ", " + i + ", " + what + ")", house.node(k, i, what), oracle.node(k, i, what));
    }
}
