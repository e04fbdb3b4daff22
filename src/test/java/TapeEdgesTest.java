/** Promises 1 to 3 and the TOKENS of the terms, at their edges. */
public final class TapeEdgesTest {
    private static final String ROOT = "lexicon Root { }";

    public static void main(String[] args) {
        newObject();
        newObjectHasNothing();
        newDesk();
        feedToTheRim();
        feedRefused();
        feedOrder();
        backToNothing();
        backRefused();
        whatWentIsGone();
        fullTapeIsRead();
        blanks();
        notes();
        notesTakeAnyByte();
        bytesThatBeginNoToken();
        namesOfTwelve();
        wordsAreNoNames();
        wordsAreWhole();
        numbersOfThree();
        zeroIsOneDigit();
        signs();
        signsAtTheEnd();
        House.close("TapeEdgesTest");
    }

    private static void newObject() {
        House.asks("1: An empty tape and text (no letters, no rules, lexicons, start; 7 is not asked of it), no sentence");
        SentenceHouse x = new SentenceHouse();
        for (int what = 0; what <= 13; what++) {
            House.due("count(" + what + ")", x.count(what), 0);
        }
        House.due("back(0)", x.back(0), 0);
        House.due("back(1)", x.back(1), -1);
        House.due("holds() of the empty pair string", x.holds(), 0);
        House.due("rule(0)", x.rule(0), -1);
        House.due("differ(0, 0)", x.differ(0, 0), -1);
        House.due("remove(0)", x.remove(0), -1);
        House.due("parse()", x.parse(), -1);
        House house = new House();
        House.due("holds() of aa", house.holds("aa"), -1);
        House.due("forms() of a", house.forms("a"), -1);
        House.due("analyse() of a", house.analyse("a"), -1);
        House.due("near() of a", house.near("a"), -1);
        House.due("word(0) of a", house.word(0, "a"), -1);
        House.due("insert(0) of a", house.insert(0, "a"), -1);
        House.due("count(9)", house.it.count(9), 0);
    }

    private static void newObjectHasNothing() {
        House.asks("1: A new object: nothing was analysed, made, read or written");
        SentenceHouse x = new SentenceHouse();
        House.due("candidates()", x.candidates(), 0);
        for (int k = -1; k <= 1; k++) {
            for (int i = -1; i <= 1; i++) {
                House.due("form", x.form(k, i), -1);
                House.due("way", x.way(k, i), -1);
                House.due("candidate", x.candidate(k, i), -1);
                House.due("nearby", x.nearby(k, i), -1);
                House.due("reading", x.reading(k, i), -1);
                House.due("node", x.node(k, i, 0), -1);
            }
            House.due("octet", x.octet(k), -1);
            House.due("write(1, k)", x.write(1, k), -1);
            House.due("write(2, k)", x.write(2, k), -1);
        }
    }

    private static void newDesk() {
        House.asks("1: eight EMPTY structures on the desk.");
        House house = new House();
        for (int slot = 0; slot < 8; slot++) {
            House.due("slot " + slot, house.written(0, slot), "{}");
            House.due("unify", house.it.unify(slot, 7 - slot, slot), 0);
            House.due("above", house.it.above(slot, 7 - slot), 1);
        }
        House.due("slot 8", house.written(0, 8), "NONE");
        House.due("slot -1", house.written(0, -1), "NONE");
    }

    /** A new object whose tape has 20 times n bytes, all blanks. */
    private static SentenceHouse blankTape(int n) {
        SentenceHouse x = new SentenceHouse();
        int four = 0x20202020;
        for (int i = 1; i <= n; i++) {
            House.due("feed " + i, x.feed(four, four, four, four, four), 20L * i);
        }
        return x;
    }

    private static void feedToTheRim() {
        House.asks("2: how many it has; NONE, and nothing comes, if it would have more than 5,000.");
        SentenceHouse x = blankTape(249);
        House.due("feed from 4,980 to 5,000", x.feed(1, 2, 3, 4, 5), 5000);
        House.due("feed from 5,000", x.feed(1, 2, 3, 4, 5), -1);
        House.due("count(9)", x.count(9), 5000);
        House.due("back(19)", x.back(19), 4981);
        House.due("feed from 4,981 would be 5,001", x.feed(1, 2, 3, 4, 5), -1);
        House.due("count(9)", x.count(9), 4981);
        House.due("back(1)", x.back(1), 4980);
        House.due("feed from 4,980", x.feed(1, 2, 3, 4, 5), 5000);
        House.due("back(21)", x.back(21), 4979);
        House.due("feed from 4,979", x.feed(1, 2, 3, 4, 5), 4999);
        House.due("feed from 4,999", x.feed(1, 2, 3, 4, 5), -1);
        House.due("count(9)", x.count(9), 4999);
    }

    private static void feedRefused() {
        House.asks("2: NONE, and nothing comes, if it would have more than 5,000.");
        SentenceHouse x = blankTape(249);
        // "lexicon Root { }" and blanks are the last 20 bytes
        House.due("feed", x.feed(0x6c657869, 0x636f6e20, 0x526f6f74, 0x207b207d, 0x20202020), 5000);
        House.due("feed of bad bytes", x.feed(0, 0, 0, 0, 0), -1);
        House.due("back(1)", x.back(1), 4999);
        House.due("feed of bad bytes", x.feed(0, 0, 0, 0, 0), -1);
        House.due("read()", x.read(), 0);
        House.due("count(9)", x.count(9), 0);
        House.due("count(4)", x.count(4), 1);
    }

    private static void feedOrder() {
        House.asks("2: Twenty bytes come behind the tape, the highest of each int first");
        House house = House.of("letters a b c d; lexicon Root { abcd -> end; abc -> end; a -> end; }");
        SentenceHouse x = house.it;
        House.due("feed", x.feed(0x61626364, -1, 0x80ffff80, Integer.MIN_VALUE, 0x7fffffff), 20);
        House.due("back(16)", x.back(16), 4);
        House.due("analyse() of abcd", x.analyse(), 1);
        House.due("way", x.way(0, 0), 0);
        House.due("feed", x.feed(0x61626364, 0, 0, 0, 0), 20);
        House.due("back(17)", x.back(17), 3);
        House.due("analyse() of abc", x.analyse(), 1);
        House.due("way", x.way(0, 0), 1);
        x.feed(0x61616161, 0x61616161, 0x61616161, 0x61616161, 0x61616161);
        House.due("back(19)", x.back(19), 1);
        House.due("feed behind one byte", x.feed(0x62636400, 0, 0, 0, 0), 21);
        House.due("back(17)", x.back(17), 4);
        House.due("analyse() of abcd", x.analyse(), 1);
        House.due("way", x.way(0, 0), 0);
        House.due("feed", x.feed(0x25252525, 0x25252525, 0x25252525, 0x25252525, 0x0a414141), 20);
        House.due("back(3)", x.back(3), 17);
        House.due("feed", x.feed(0x6c657869, 0x636f6e20, 0x526f6f74, 0x207b207d, 0x20202020), 37);
        House.due("read() of all bytes", x.read(), 0);
    }

    private static void backToNothing() {
        House.asks("3: The last n bytes of the tape go: how many it has");
        House house = new House().tell(ROOT + "xyz");
        int all = ROOT.length() + 3;
        House.due("back(0)", house.it.back(0), all);
        House.due("back(3)", house.it.back(3), all - 3);
        House.due("read() of the rest", house.it.read(), 0);
        House.due("back of all", house.tell("abcde").it.back(5), 0);
        House.due("back(0) of none", house.it.back(0), 0);
        House.due("all but one", house.tell("abcde").it.back(4), 1);
        House.due("the last one", house.it.back(1), 0);
    }

    private static void backRefused() {
        House.asks("3: NONE, and none go, if it has less, or n is below 0.");
        House house = new House().tell("abcde");
        int[] wrong = {6, 7, 5000, Integer.MAX_VALUE, -1, -5, -6, Integer.MIN_VALUE};
        for (int n : wrong) {
            House.due("back(" + n + ") of 5", house.it.back(n), -1);
            House.due("count(9)", house.it.count(9), 5);
        }
        House.due("back(5)", house.it.back(5), 0);
        House.due("back(1) of none", house.it.back(1), -1);
        House.due("back(-1) of none", house.it.back(-1), -1);
        SentenceHouse full = blankTape(250);
        House.due("back(5001) of 5,000", full.back(5001), -1);
        House.due("back(4999)", full.back(4999), 1);
        House.due("back(2)", full.back(2), -1);
    }

    /** What read() answers of a text cut short by back(), with its other bytes behind the tape's end still. */
    private static void cut(String text, int to) {
        House whole = new House();
        whole.tell(text + " ".repeat(4)).it.back(4 + text.length() - to);
        House.due("the first " + to + " bytes of " + text, whole.it.read(), House.fault(text.substring(0, to)));
    }

    private static void whatWentIsGone() {
        House.asks("3: The last n bytes of the tape go");
        String[] texts = {"letters a b;lexicon Root{ab->end 123{f#1=g h#1};}grammar s->s s 5:x0.f=x1;start ss;",
            "letters a b;set Sab=a b;pair a:b;rule rr a:b<=>_ Sab;rule q a:a=>(a|b)*_;rule p a:a/<=#_;lexicon Root{}%x\n", "%%\n%;\nlexicon Root{}"};
        for (String text : texts) {
            for (int to = 0; to <= text.length(); to++) {
                cut(text, to);
            }
        }
        House.due("the end of a number", House.fault("lexicon Root { 0 -> end 5"), 1 + 16L * 25);
        House house = new House();
        house.tell("lexicon Root { 0 -> end 5a").it.back(1);
        House.due("a letter went behind it", house.it.read(), 1 + 16L * 25);
        house.tell("lexicon Root { 0 -> end 1234").it.back(1);
        House.due("a digit went behind it", house.it.read(), 1 + 16L * 27);
        house.tell("start abcdefghijklm").it.back(1);
        House.due("a 13th sign went", house.it.read(), 1 + 16L * 18);
        house.tell("grammar s ->").it.back(1);
        House.due("the sign's second byte went", house.it.read(), 1 + 16L * 10);
        house.tell("rule r a:a <=>").it.back(1);
        House.due("the sign's third byte went", house.it.read(), 1 + 16L * 13);
        house.tell("rule r a:a /<=").it.back(1);
        House.due("the sign's third byte went", house.it.read(), 1 + 16L * 11);
    }

    /** A text whose last byte is the tape's 5,000th, with blanks ahead of it. */
    private static String wide(String end) {
        return " ".repeat(5000 - end.length()) + end;
    }

    private static void fullTapeIsRead() {
        House.asks("TEXT. A TAPE has at most 5,000 bytes.");
        House.fine(wide(ROOT));
        House.due("an empty lexicon that ends too early", House.fault(wide("lexicon Root {")), 1 + 16L * 5000);
        House.due("no Root", House.fault(" ".repeat(5000)), 7 + 16L * 5000);
        House.due("no Root, one less", House.fault(" ".repeat(4999)), 7 + 16L * 4999);
        House.due("a bad last byte", House.fault(wide(ROOT + "!")), 1 + 16L * 4999);
        House.due("a last byte that can't stand there", House.fault(wide(ROOT + ";")), 1 + 16L * 4999);
        House.due("a NAME at the end", House.fault(wide(ROOT + "start s")), 1 + 16L * 5000);
        House.due("a note at the end", House.fault(wide("%")), 7 + 16L * 5000);
        House.due("tokens of one byte each", House.fault(";".repeat(5000)), 1);
        House many = new House();
        House.due("2,498 tokens in a row", many.read("set Ab = " + "a ".repeat(2490) + "; letters a"), 1 + 16L * 5000);
    }

    private static void blanks() {
        House.asks("Between TOKENS there may be BLANKS (bytes 9, 10, 13, 32)");
        for (int b = 0; b < 256; b++) {
            boolean blank = b == 9 || b == 10 || b == 13 || b == 32;
            // a byte between two tokens that need none
            String text = "lexicon Root {" + (char) b + "}";
            boolean startsName = b >= 'a' && b <= 'z' || b >= 'A' && b <= 'Z';
            if (blank) {
                House.due("byte " + b, House.fault(text), 0);
                House.due("byte " + b + " ahead", House.fault((char) b + ROOT + (char) b), 0);
                House.due("byte " + b + " between words", House.fault("lexicon" + (char) b + "Root{}"), 0);
            } else if (b == '%') {
                House.due("byte " + b, House.fault(text), 1 + 16L * text.length());
            } else if (startsName || b == '0') {
                House.due("byte " + b + ", an ENTRY's begin", House.fault(text), 1 + 16L * 15);
            } else if (b == '}') {
                House.due("byte " + b, House.fault(text), 1 + 16L * 15);
            } else {
                House.due("byte " + b, House.fault(text), 1 + 16L * 14);
            }
        }
        House.fine(" \t\r\n" + ROOT + "\n\r\t ");
    }

    private static void notes() {
        House.asks("NOTES (from % up to a byte 10 or the end; in them any byte)");
        House.fine("%\n" + ROOT);
        House.fine(ROOT + "%");
        House.fine(ROOT + "%%%");
        House.fine("%%\n%\n" + ROOT + "% lexicon {\n");
        House.fine("lexicon%\nRoot%%\n{%}\n}");
        House.faultDue(7, "% " + ROOT + "^");
        House.faultDue(7, "%\r" + ROOT + "^");
        House.faultDue(1, "%\r\n^;" + ROOT);
        House.faultDue(1, "%\n% \n ^}");
        House.faultDue(1, "lexicon Root { % }^");
        // a note parts two names, and ends a number
        House.fine("lexicon Root{}lexicon%x\nAb{}");
        House.fine("letters a;lexicon Root{a->end 5%5\n;}");
    }

    private static void notesTakeAnyByte() {
        House.asks("in them any byte");
        for (int b = 0; b < 256; b++) {
            String note = "%a" + (char) b + "\n" + ROOT;
            House.due("byte " + b + " in a note", House.fault(note), 0);
            String open = "%" + (char) b + ROOT;
            House.due("byte " + b + " ends a note, or not", House.fault(open), b == 10 ? 0 : 7 + 16L * open.length());
        }
    }

    private static void bytesThatBeginNoToken() {
        House.asks("1 SYNTAX: no token begins so (a byte 0, too)");
        // where any sign, name or number is one byte later at the least, the fault of these is at the byte itself
        String strange = "\0!\"$&'+,/<>[\\]^`~-\u007f\u0080\u00a0\u00ff\u000b\f\u001f\b\u000e";
        for (int i = 0; i < strange.length(); i++) {
            String text = "letters a " + strange.charAt(i) + " b;" + ROOT;
            House.due("byte " + (int) strange.charAt(i), House.fault(text), 1 + 16L * 10);
        }
        House.faultDue(1, "^\0");
        House.faultDue(1, ROOT + "^\0");
        House.faultDue(1, "letters a^\0b;");
    }

    private static void namesOfTwelve() {
        House.asks("NAMES: a letter A .. Z, a .. z, then letters and digits; 12 at most");
        for (int size = 1; size <= 14; size++) {
            String name = ("N" + "a1Z".repeat(5)).substring(0, size);
            String text = "lexicon " + name + " { } " + ROOT;
            House.due("a NAME of " + size, House.fault(text), size <= 12 ? 0 : 1 + 16L * 8);
            String last = "start " + name;
            long end = size <= 12 ? last.length() : 6;
            House.due("a NAME of " + size + " at the end", House.fault(last), 1 + 16 * end);
        }
        House.fine("start A;" + ROOT);
        House.fine("start Z;" + ROOT);
        House.fine("start a;" + ROOT);
        House.fine("start z09AZaz;" + ROOT);
        House.faultDue(1, "start ^1a;" + ROOT);
        House.faultDue(1, "start a^_b;" + ROOT);
        House.faultDue(1, "start a^-b;" + ROOT);
        House.faultDue(1, "start ^@;" + ROOT);
        House.faultDue(1, "start ^[;" + ROOT);
        House.faultDue(1, "start ^`;" + ROOT);
        House.faultDue(1, "start ^{;" + ROOT);
        House.faultDue(1, "start a^:;" + ROOT);
        House.faultDue(1, "start a^/;" + ROOT);
        House.faultDue(1, "^" + "a".repeat(4000));
        House two = new House();
        House.due("two NAMES that differ at the 12th sign", two.lay(0, "{abcdefghijkl p abcdefghijkm q}"), 0);
        House.due("written", two.written(0, 0), "{abcdefghijkl p abcdefghijkm q}");
    }

    private static void wordsAreNoNames() {
        House.asks("and no WORDS. WORDS: end grammar letters lexicon pair rule set start x0 x1 x2.");
        String[] words = {"end", "grammar", "letters", "lexicon", "pair", "rule", "set", "start", "x0", "x1", "x2"};
        for (String word : words) {
            House.faultDue(1, "start ^" + word + ";");
            House.faultDue(1, "lexicon ^" + word + " { }");
            House.faultDue(1, "set ^" + word + " = a;");
            House.faultDue(1, "rule ^" + word + " a:a => _;");
            House.faultDue(1, "rule r a:a => _ ^" + word + ";");
            House.faultDue(1, "rule r a:a => _ a:^" + word + ";");
            House.faultDue(1, "lexicon Root { ^" + word + " -> end; }");
            House.faultDue(1, "lexicon Root { a -> end {^" + word + " p}; }");
            House.faultDue(1, "lexicon Root { a -> end {f ^" + word + "}; }");
            House.faultDue(1, "grammar ^" + word + " -> a;");
            House.faultDue(1, "grammar s -> ^" + word + ";");
            House.faultDue(1, "grammar s -> a ^" + word + ";");
            House.faultDue(1, "grammar s -> a : x0.^" + word + " = x1;");
            if (word.charAt(0) != 'x') {
                House.faultDue(1, "grammar s -> a : x0 = ^" + word + ";");
                House.faultDue(1, "grammar s -> a : ^" + word + " = x0;");
            }
            if (!word.equals("end")) {
                House.faultDue(1, "letters a; lexicon Root { a -> ^" + word + "; }");
            }
            House.fine("start " + word + "1;" + ROOT);
            House.fine("start " + Character.toUpperCase(word.charAt(0)) + word.substring(1) + ";" + ROOT);
        }
        House.fine("start x3; grammar x -> X0 x10 : x0.x = x2.x20;" + ROOT);
    }

    private static void wordsAreWhole() {
        House.asks("TOKENS, each as long as it can be");
        House.faultDue(1, "^lettersa;");
        House.faultDue(1, "^letter a;");
        House.faultDue(1, "^Letters a;");
        House.faultDue(1, "^start1 s;");
        House.faultDue(1, "letters ^ab;");
        House.faultDue(1, "letters ^a1;");
        House.faultDue(1, "^lexiconRoot { }");
        House.fine("letters a;start s;lexicon Root{a->end{};}");
    }

    private static void numbersOfThree() {
        House.asks("NUMBERS: 1 to 3 digits, no letter or digit right behind.");
        String entry = "letters a;lexicon Root{a->end ";
        for (String number : new String[] {"0", "9", "00", "10", "99", "000", "100", "999", "007"}) {
            House.fine(entry + number + ";}");
            House.faultDue(1, entry + "^" + number + "a;}");
            House.faultDue(1, entry + "^" + number + "Z;}");
            House.faultDue(1, entry + number + "^_;}");
            House.faultDue(1, entry + number + " ^5;}");
            House.faultDue(1, entry + number + "^");
        }
        House.faultDue(1, entry + "^1000;}");
        House.faultDue(1, entry + "^0000;}");
        House.faultDue(1, entry + "^1234567890123;}");
        House.faultDue(1, entry + "^1000");
        House.faultDue(1, "grammar s -> s ^1000;");
        House costs = House.of("letters a; lexicon Root { a -> end 999 {cat s}; } grammar s -> s 999; start s;");
        costs.sentence("a");
        House.due("parse()", costs.it.parse(), 2);
        House.due("the COST of 999", costs.it.reading(0, 0), 999);
        House.due("the COST of 999 twice", costs.it.reading(1, 0), 1998);
    }

    private static void zeroIsOneDigit() {
        House.asks("0 is the NUMBER of one digit 0");
        House.fine("letters a; pair a:0;" + ROOT);
        House.faultDue(1, "letters a; pair a:^00;");
        House.faultDue(1, "letters a; pair a:^000;");
        House.faultDue(1, "letters a; pair a:^1;");
        House.faultDue(1, "letters a; pair ^0:a;");
        House.fine("letters a; rule r a:a => a:0 _;" + ROOT);
        House.faultDue(1, "letters a; rule r a:a => a:^00 _;");
        House.faultDue(1, "letters a; rule r a:a => ^0 _;");
        House.faultDue(1, "letters a; rule r a:a => ^0:a _;");
        House.fine("lexicon Root { 0 -> end; }");
        House.fine("lexicon Root { 0 -> end 0; }");
        House.faultDue(1, "lexicon Root { ^00 -> end; }");
        House.faultDue(1, "lexicon Root { ^1 -> end; }");
        House.faultDue(1, "lexicon Root { 0 -> ^0; }");
        House.fine("letters a; pair a:0; rule r a:0 => _;" + ROOT);
    }

    private static void signs() {
        House.asks("SIGNS: ; : , . = | * ? # _ @ { } ( ) -> => <= <=> /<=");
        String rule = "letters a; rule r a:a ";
        for (String op : new String[] {"=>", "<=", "<=>", "/<="}) {
            House.fine(rule + op + "_;" + ROOT);
            House.fine("letters a;rule r a:a" + op + "(a)|@*_#?;" + ROOT);
            House.faultDue(1, rule + op + " ^> _;");
            House.faultDue(1, rule + op + " ^= _;");
        }
        for (String part : new String[] {"<", "/", "/<", "<>", "< =", "/ <=", "/< =", "-", "- >", ">"}) {
            House.faultDue(1, rule + "^" + part + " _;");
        }
        House.faultDue(1, rule + "^= > _;");
        House.faultDue(1, rule + "=>^> _;");
        House.faultDue(1, rule + "<=>^> _;");
        House.faultDue(1, rule + "^-> _;");
        House.faultDue(1, rule + "/<=^> _;");
        House.faultDue(1, "letters a; set Ab ^=> a;");
        House.faultDue(1, "letters a; set Ab =^= a;");
        House.faultDue(1, "letters a; lexicon Root { a ^=> end; }");
        House.faultDue(1, "grammar s ^<= s;");
        House.fine("letters a;set Ab=a;grammar s->s s 1:x0.f=x1.f,x2=g;lexicon Root{a->end{f#1=g h#1};}");
    }

    private static void signsAtTheEnd() {
        House.asks("SYNTAX: .. or it can't stand there (the end, too: the text's length");
        House.faultDue(1, "grammar s ^-");
        House.faultDue(1, "rule r a:a ^<");
        House.faultDue(1, "rule r a:a ^/");
        House.faultDue(1, "rule r a:a ^/<");
        House.faultDue(1, "rule r a:a =>^");
        House.faultDue(1, "rule r a:a <=^");
        House.faultDue(1, "rule r a:a <=>^");
        House.faultDue(1, "rule r a:a /<=^");
        House.faultDue(1, "rule r a:a ^=");
        House.faultDue(1, "set Ab =^");
        House.faultDue(1, "grammar s ->^");
        House.faultDue(1, "grammar s ->   % note\n ^");
    }
}
