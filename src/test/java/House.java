/** A SentenceHouse with a tape that takes texts of any size, and a count of wrong answers. */
final class House {
    /** So many wrong answers are told, the others are counted. */
    private static final int TOLD = 50;

    private static int wrong;
    private static String sentence = "";

    final SentenceHouse it = new SentenceHouse();

    static int wrong() {
        return wrong;
    }

    /** The sentence of the document that the answers behind this call are asked of; it is told with a wrong one. */
    static void asks(String quoted) {
        sentence = quoted;
    }

    static void due(String what, long got, long want) {
        due(what, Long.toString(got), Long.toString(want));
    }

    static void due(String what, String got, String want) {
        if (!got.equals(want)) {
            wrong++;
            if (wrong > TOLD) {
                return;
            }
            System.out.println(what + " answered " + got + ", due is " + want);
            if (!sentence.isEmpty()) {
                System.out.println("  asked by: " + sentence);
            }
        }
    }

    /** Ends a test's program. */
    static void close(String name) {
        System.out.println(name + ": " + (wrong == 0 ? "all answers are as due" : wrong + " wrong answers"));
        System.exit(wrong == 0 ? 0 : 1);
    }

    House tell(String s) {
        for (int i = 0; i < s.length(); i += 20) {
            int[] v = new int[5];
            for (int j = 0; j < 20; j++) {
                int c = i + j < s.length() ? s.charAt(i + j) : 32;
                v[j / 4] |= (c & 255) << 24 - 8 * (j % 4);
            }
            it.feed(v[0], v[1], v[2], v[3], v[4]);
        }
        it.back((20 - s.length() % 20) % 20);
        return this;
    }

    static House of(String text) {
        House house = new House();
        due("read() of " + text, house.tell(text).it.read(), 0);
        return house;
    }

    /** What read() answers on a new object. */
    static int fault(String text) {
        return new House().tell(text).it.read();
    }

    /** A text whose fault is due at the sign ^ in it. */
    static void faultDue(int code, String marked) {
        int place = marked.indexOf('^');
        String text = marked.replace("^", "");
        due("read() of " + marked, fault(text), code + 16L * place);
    }

    static void fine(String text) {
        due("read() of " + text, fault(text), 0);
    }

    int read(String s) {
        return tell(s).it.read();
    }

    int holds(String s) {
        return tell(s).it.holds();
    }

    int forms(String s) {
        return tell(s).it.forms();
    }

    int analyse(String s) {
        return tell(s).it.analyse();
    }

    int near(String s) {
        return tell(s).it.near();
    }

    int lay(int slot, String s) {
        return tell(s).it.lay(slot);
    }

    int word(int i, String s) {
        return tell(s).it.word(i);
    }

    int insert(int i, String s) {
        return tell(s).it.insert(i);
    }

    House sentence(String... words) {
        for (int i = 0; i < words.length; i++) {
            word(i, words[i]);
        }
        return this;
    }

    /** The sentence becomes these words and no others. */
    House only(String... words) {
        while (it.count(10) > words.length) {
            it.remove(0);
        }
        return sentence(words);
    }

    /** All that write() writes, or "NONE". */
    String written(int what, int k) {
        int length = it.write(what, k);
        if (length < 0) {
            return "NONE";
        }
        StringBuilder s = new StringBuilder();
        for (int i = 0; i < length; i++) {
            s.append((char) it.octet(i));
        }
        due("octet behind the end", it.octet(length), -1);
        return s.toString();
    }

    String form(int k) {
        StringBuilder s = new StringBuilder();
        for (int i = 0; it.form(k, i) > 0; i++) {
            s.append((char) it.form(k, i));
        }
        return s.toString();
    }

    String nearby(int k) {
        StringBuilder s = new StringBuilder();
        for (int i = 0; it.nearby(k, i) > 0; i++) {
            s.append((char) it.nearby(k, i));
        }
        return s.toString();
    }

    /** The codes of a reading's nodes, each with its words. */
    String tree(int k) {
        StringBuilder s = new StringBuilder();
        for (int i = 0; it.node(k, i, 0) != -1; i++) {
            s.append(i > 0 ? " " : "").append(it.node(k, i, 0)).append('[');
            s.append(it.node(k, i, 1)).append(it.node(k, i, 2)).append(']');
        }
        return s.toString();
    }
}
