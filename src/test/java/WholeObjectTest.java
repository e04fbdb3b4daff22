import java.util.ArrayList;
import java.util.List;

/** What is asked of an object as a whole: 512 calls, memory of its own, the same calls the same answers. */
public final class WholeObjectTest {
    private static final String SIGNS = "0123456789ABCDEFGHIJKLMNOPQRSTUVWXYZabcdefghijklmnopqrstuvwxyz";

    public static void main(String[] args) {
        namesOfAllCalls();
        longNamesOfAllCalls();
        sentencesOfAllCalls();
        objectsAtOnce();
        sameCalls();
        constants();
        House.close("WholeObjectTest");
    }

    /** Names of two signs, each once, from one number on, as many as 5,000 bytes take. */
    private static String names(int from) {
        StringBuilder s = new StringBuilder();
        for (int k = from; s.length() < 4998; k++) {
            s.append(SIGNS.charAt(10 + k / 62 % 52)).append(SIGNS.charAt(k % 62)).append(' ');
        }
        return s.toString();
    }

    private static void namesOfAllCalls() {
        House.asks("An object is used for at most 512 calls after it has been made: with as many NAMES as these can tell");
        House house = new House();
        // 250 calls of feed, one of back, one that reads: twice, and 8 are left
        House.due("read() of the first names", house.read(names(0)), 1);
        House.due("lay() of other names", house.tell(names(1560)).it.lay(0), 1);
        House.due("lay()", house.lay(1, "{ab cd ef gh}"), 0);
        House.due("write()", house.it.write(0, 1), 13);
        House.due("octet(1)", house.it.octet(1), 'a');
        House.due("octet(5)", house.it.octet(5), 'd');
        House.due("octet(11)", house.it.octet(11), 'h');
    }

    private static void longNamesOfAllCalls() {
        House.asks("An object is used for at most 512 calls: with the longest NAMES");
        House house = new House();
        for (int round = 0; round < 2; round++) {
            StringBuilder s = new StringBuilder("{");
            for (int k = 0; s.length() < 4980; k++) {
                s.append("longlonglo").append(SIGNS.charAt(10 + round)).append(SIGNS.charAt(k % 62)).append(k % 2 == 0 ? " " : " % note\n");
            }
            // names by twos are FEATURES and their ATOMS; the 21st FEATURE is too many
            int fault = house.tell(s.toString()).it.lay(0);
            House.due("the 21st FEATURE", fault, 2 + 16L * s.indexOf("longlonglo" + SIGNS.charAt(10 + round) + SIGNS.charAt(40)));
        }
        House.due("lay()", house.lay(7, "{longlongloZ9 longlongloAz}"), 0);
        House.due("write()", house.it.write(0, 7), 27);
        House.due("octet(12)", house.it.octet(12), '9');
        House.due("octet(25)", house.it.octet(25), 'z');
    }

    private static void sentencesOfAllCalls() {
        House.asks("An object is used for at most 512 calls: with a new sentence as often as they can tell one");
        House house = House.of("letters a b; start s; lexicon Root { a -> end {cat s}; b -> end {cat t}; } grammar s -> t s; grammar s -> s t;");
        // with one word a alone, and p words b ahead of it, there are as many readings as orders to take the b's in
        int[] orders = {1, 3, 3, 1};
        for (int k = 0; k < 32; k++) {
            int readings = 0;
            for (int i = 0; i < 4; i++) {
                house.word(i, (k >> i & 1) != 0 ? "a" : "b");
                readings = k % 16 == 1 << i ? orders[i] : readings;
            }
            House.due("parse() of sentence " + k, house.it.parse(), readings);
        }
        House.due("rows worked: 2 words, 4 rows of two, 8 of three, 16 of four", house.it.count(11), 30);
        House.due("rows kept", house.it.count(12), 30);
    }

    /** Calls by number, of all kinds, upon a house with a text; their answers. */
    private static long call(House house, int k) {
        switch (k % 16) {
            case 0: return house.word(house.it.count(10) % 3, k % 32 == 0 ? "a" : "ab");
            case 1: return house.it.parse();
            case 2: return house.it.reading(0, 0);
            case 3: return house.it.write(2, 0);
            case 4: return house.it.octet(k % 7);
            case 5: return house.lay(k % 8, k % 32 == 5 ? "{f #1 g #1}" : "{f {h p}}");
            case 6: return house.it.unify(k % 8, (k + 1) % 8, (k + 2) % 8);
            case 7: return house.it.above(k % 8, (k + 3) % 8);
            case 8: return house.analyse(k % 32 == 8 ? "ab" : "b");
            case 9: return house.it.way(0, 0);
            case 10: return house.it.candidate(0, 5);
            case 11: return house.near("ab");
            case 12: return house.it.nearby(0, 0);
            case 13: return house.forms(k % 32 == 13 ? "A" : "aA");
            case 14: return house.holds("aaAa") * 10 + house.it.rule(0);
            default: return house.it.differ(0, 1) * 100 + house.it.count(k / 16 % 14);
        }
    }

    private static final String ONE = "letters a b A; pair A:a A:0; rule r A:a => a _; rule q A:a => b _; start s; grammar s -> s s 3;"
            + "lexicon Root { a -> end 1 {cat s}; b -> end 2 {cat s f p}; aA -> end {cat t}; ab -> end 5 {cat s f q}; }";
    private static final String TWO = "letters b a A; pair A:b; rule p b:b => _ #; rule r A:b <= a _; start t; grammar t -> t t 7 : x0.f = x1;"
            + "lexicon Root { a -> Root 4 {cat t}; b -> end 1; a -> end {cat t g {}}; }";
    private static final int CALLS = 128;

    private static List<Long> alone(String text) {
        House house = House.of(text);
        List<Long> answers = new ArrayList<>();
        for (int k = 0; k < CALLS; k++) {
            answers.add(call(house, k));
        }
        return answers;
    }

    private static void objectsAtOnce() {
        House.asks("All memory is the class's own: several objects at once answer as each does alone");
        List<Long> one = alone(ONE);
        List<Long> two = alone(TWO);
        House first = House.of(ONE);
        House second = House.of(TWO);
        House third = House.of(ONE);
        int unlike = 0;
        for (int k = 0; k < CALLS; k++) {
            House.due("call " + k + " of the first", call(first, k), one.get(k));
            House.due("call " + k + " of the second", call(second, k), two.get(k));
            House.due("call " + k + " of the third", call(third, k), one.get(k));
            unlike += one.get(k).equals(two.get(k)) ? 0 : 1;
        }
        House.due("the texts answer otherwise often enough", unlike > 20 ? 1 : 0, 1);
    }

    private static void sameCalls() {
        House.asks("the same calls give the same answers");
        House.due("one", alone(ONE).toString(), alone(ONE).toString());
        House.due("two", alone(TWO).toString(), alone(TWO).toString());
    }

    private static void constants() {
        House.asks("The constants: MANY = -2: Too many.");
        House.due("NONE", SentenceHouse.NONE, -1);
        House.due("MANY", SentenceHouse.MANY, -2);
    }
}
