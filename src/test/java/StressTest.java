import java.util.Random;

/** No call may throw, for any arguments in any state, even beyond an object's 512 calls. */
public final class StressTest {
    private static final int[] ODD = {0, 1, 2, 3, 4, 5, 7, 8, 9, 15, 16, 20, 21, 32, 40, 100, 255, 2000, 5000, -1, -2,
        Integer.MIN_VALUE, Integer.MIN_VALUE + 1, Integer.MAX_VALUE, Integer.MAX_VALUE - 1};

    public static void main(String[] args) {
        for (int seed = 0; seed < 300; seed++) {
            Random chance = new Random(seed);
            House house = new House();
            for (int call = 0; call < 1500; call++) {
                if (chance.nextInt(4) == 0) {
                    tell(house, chance);
                }
                any(house.it, chance);
            }
        }
        fullOfNames();
        System.out.println("StressTest: nothing was thrown");
    }

    private static int odd(Random chance) {
        return ODD[chance.nextInt(ODD.length)];
    }

    private static void tell(House house, Random chance) {
        Tongue tongue = new Tongue(chance.nextInt());
        String text = tongue.text();
        switch (chance.nextInt(9)) {
            case 0 -> house.read(text);
            case 1 -> house.read(tongue.sentenceText());
            case 2 -> house.read(tongue.spoilt(text));
            case 3 -> house.tell(tongue.wideStructure());
            case 4 -> house.tell(tongue.structure());
            case 5 -> house.tell(tongue.pairRow());
            case 6 -> house.word(chance.nextInt(8), tongue.likelyWord());
            default -> {
                house.it.back(house.it.count(9));
                house.tell(tongue.word(16));
            }
        }
    }

    private static void any(SentenceHouse x, Random chance) {
        int a = odd(chance);
        int b = odd(chance);
        int c = odd(chance);
        switch (chance.nextInt(27)) {
            case 0 -> x.feed(chance.nextInt(), chance.nextInt(), a, b, c);
            case 1 -> x.back(a);
            case 2 -> x.read();
            case 3 -> x.count(a);
            case 4 -> x.holds();
            case 5 -> x.rule(a);
            case 6 -> x.differ(a, b);
            case 7 -> x.forms();
            case 8 -> x.form(a, b);
            case 9 -> x.analyse();
            case 10 -> x.way(a, b);
            case 11 -> x.candidate(a, b);
            case 12 -> x.candidates();
            case 13 -> x.near();
            case 14 -> x.nearby(a, b);
            case 15 -> x.lay(a);
            case 16 -> x.unify(a, b, c);
            case 17 -> x.above(a, b);
            case 18 -> x.write(a, b);
            case 19 -> x.octet(a);
            case 20 -> x.word(a);
            case 21 -> x.insert(a);
            case 22 -> x.remove(a);
            case 23, 24 -> x.parse();
            case 25 -> x.reading(a, b);
            default -> x.node(a, b, c);
        }
    }

    /** More names than an object's calls can tell. */
    private static void fullOfNames() {
        House house = new House();
        for (int n = 0; n < 4000; n++) {
            house.lay(n % 8, "{n" + n + " v" + n + "a f" + n + " w" + n + "a}");
        }
        for (int slot = 0; slot < 8; slot++) {
            house.written(0, slot);
        }
    }
}
