/** Runs of calls by chance, from seeds, that the class and the oracle must answer alike. */
public final class FuzzTest {
    public static void main(String[] args) {
        int from = args.length > 0 ? Integer.parseInt(args[0]) : 0;
        int to = args.length > 1 ? Integer.parseInt(args[1]) : 400;
        for (int seed = from; seed < to && Twins.wrong() == 0; seed++) {
            tongue(seed);
            desk(seed);
            spoilt(seed);
            sentences(seed);
            again(seed);
        }
        System.out.println(Twins.wrong() == 0 ? "class and oracle agree" : Twins.wrong() + " answers differ");
        System.exit(Twins.wrong() == 0 ? 0 : 1);
    }

    private static void tongue(int seed) {
        Tongue tongue = new Tongue(seed);
        Twins twins = new Twins("tongue " + seed);
        twins.tell(tongue.text());
        twins.read();
        for (int what = -1; what <= 14; what++) {
            twins.count(what);
        }
        forms(tongue, twins);
        words(tongue, twins);
        sentences(tongue, twins);
    }

    private static void forms(Tongue tongue, Twins twins) {
        twins.rule(0);
        for (int k = 0; k < 12; k++) {
            twins.tell(tongue.odds(90) ? tongue.pairRow() : tongue.spoilt(tongue.pairRow()));
            twins.holds();
            for (int r = -1; r <= tongue.rules; r++) {
                twins.rule(r);
            }
        }
        if (twins.pairCount() <= 6) {
            twins.differ(tongue.upTo(4) - 1, tongue.upTo(4) - 1);
            twins.differ(0, 1);
            twins.differ(1, 0);
        }
        for (int k = 0; k < 4; k++) {
            twins.tell(tongue.odds(90) ? tongue.deepSide() : tongue.spoilt(tongue.deepSide()));
            long n = twins.forms();
            for (int f = -1; f <= n; f++) {
                for (int i = -1; i < 9; i++) {
                    twins.form(f, i);
                }
            }
        }
    }

    private static void words(Tongue tongue, Twins twins) {
        twins.candidates();
        for (int k = 0; k < 12; k++) {
            String strange = tongue.odds(50) ? tongue.word(16) : tongue.spoilt("abba");
            twins.tell(tongue.odds(90) ? tongue.likelyWord() : strange);
            long n = twins.analyse();
            twins.candidates();
            for (int a = 0; a <= Math.min(n, 4); a++) {
                twins.write(1, a);
                for (int i = -1; i < 5; i++) {
                    twins.way(a, i);
                }
            }
            for (int c = -1; c < 6; c++) {
                for (int what = -1; what <= 21; what++) {
                    twins.candidate(c, what);
                }
            }
        }
        twins.tell(tongue.likelyWord());
        long n = twins.near();
        for (int w = -1; w <= n; w++) {
            for (int i = -1; i < 9; i++) {
                twins.nearby(w, i);
            }
        }
    }

    private static void sentences(Tongue tongue, Twins twins) {
        twins.parse();
        for (int k = 0; k < 25; k++) {
            twins.tell(tongue.likelyWord());
            switch (tongue.upTo(5)) {
                case 0 -> {
                    twins.back(tongue.upTo(2));
                    twins.insert(tongue.upTo(4) - 1);
                }
                case 1 -> twins.word(tongue.upTo(9) - 1);
                case 2 -> {
                    twins.holds();
                    twins.remove(tongue.upTo(5) - 1);
                }
                default -> twins.word((int) Math.min(twins.count(10), 4 + tongue.upTo(1)));
            }
            twins.count(10);
            if (tongue.odds(70)) {
                parse(twins);
            }
            if (tongue.odds(10)) {
                twins.reading(0, 0);
                twins.write(2, 0);
                twins.node(0, 1, 0);
            }
        }
    }

    private static void parse(Twins twins) {
        long n = twins.parse();
        twins.count(11);
        twins.count(12);
        twins.count(13);
        for (int k = -1; k <= n; k++) {
            for (int what = -1; what < 5; what++) {
                twins.reading(k, what);
            }
            long nodes = twins.reading(k, 1);
            for (int i = -1; i <= nodes; i++) {
                for (int what = -1; what < 4; what++) {
                    twins.node(k, i, what);
                }
            }
            twins.write(2, k);
        }
    }

    private static void sentences(int seed) {
        Tongue tongue = new Tongue(7000001L * seed);
        Twins twins = new Twins("sentences " + seed);
        twins.tell(tongue.sentenceText());
        twins.read();
        sentences(tongue, twins);
    }

    /** Several texts on one object, some of them with a fault, and calls behind each. */
    private static void again(int seed) {
        Twins twins = new Twins("again " + seed);
        for (int round = 0; round < 5; round++) {
            Tongue tongue = new Tongue(9000011L * seed + round);
            twins.lay(tongue.upTo(7));
            twins.tell(tongue.odds(25) ? tongue.spoilt(tongue.text()) : tongue.odds(25) ? tongue.roughText()
                    : tongue.odds(40) ? tongue.sentenceText() : tongue.text());
            twins.read();
            for (int what = 0; what <= 13; what++) {
                twins.count(what);
            }
            twins.rule(0);
            twins.form(0, 0);
            twins.way(0, 0);
            twins.candidates();
            twins.nearby(0, 0);
            twins.reading(0, 0);
            twins.octet(0);
            forms(tongue, twins);
            words(tongue, twins);
            sentences(tongue, twins);
            twins.tell(tongue.odds(70) ? tongue.structure() : tongue.roughStructure(3));
            twins.lay(tongue.upTo(7));
            twins.unify(tongue.upTo(7), tongue.upTo(7), tongue.upTo(7));
            twins.write(0, tongue.upTo(7));
            twins.above(tongue.upTo(7), tongue.upTo(7));
        }
    }

    private static void desk(int seed) {
        Tongue tongue = new Tongue(-1 - seed);
        Twins twins = new Twins("desk " + seed);
        for (int k = 0; k < 60; k++) {
            switch (tongue.upTo(3)) {
                case 0 -> {
                    twins.tell(tongue.odds(60) ? tongue.structure() : tongue.odds(30) ? tongue.wideStructure()
                            : tongue.odds(60) ? tongue.roughStructure(3) : tongue.spoilt(tongue.structure()));
                    twins.lay(tongue.upTo(9) - 1);
                    twins.back((int) twins.count(9));
                }
                case 1 -> twins.above(tongue.upTo(9) - 1, tongue.upTo(9) - 1);
                default -> {
                    int slot = tongue.upTo(7);
                    twins.unify(tongue.upTo(7), tongue.upTo(7), tongue.upTo(8));
                    twins.write(0, slot);
                }
            }
        }
        for (int a = -1; a <= 8; a++) {
            for (int b = -1; b <= 8; b++) {
                twins.above(a, b);
            }
            twins.write(0, a);
        }
    }

    private static void spoilt(int seed) {
        for (int k = 0; k < 40; k++) {
            Tongue tongue = new Tongue(1000003L * seed + k);
            Twins twins = new Twins("spoilt " + seed + " " + k);
            twins.tell(k < 10 ? tongue.spoilt(tongue.text()) : k < 35 ? tongue.roughText() : tongue.text());
            twins.read();
            for (int what = 0; what < 9; what++) {
                twins.count(what);
            }
        }
    }
}
