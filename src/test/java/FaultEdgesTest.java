/** Promise 4: SYNTAX token by token, each case of TWICE, UNKNOWN, KIND, RING and 7, with the nearest text that is fine. */
public final class FaultEdgesTest {
    private static final String ROOT = "lexicon Root { }";

    /** Each production of the document, with blanks between all tokens. */
    private static final String[] DECLARATIONS = {
        "letters a b A ;",
        "pair A : a A : 0 ;",
        "set Sa = a b A ;",
        "rule r A : a => ( a | Sa : @ ) * _ # ? @ : 0 , _ b : Sa * , A : 0 _ ;",
        "rule q a : a <= _ ;",
        "rule p a : a <=> ( ( a ) b | a ) ? _ ;",
        "rule o A : 0 /<= # _ # ;",
        "lexicon Root { a -> end 5 { f # 1 = { g h i { } } j # 1 k # 2 l # 3 = m } ; 0 -> Next ; bA -> Root 0 ; aa -> end { } ; }",
        "lexicon Next { }",
        "grammar s -> t 3 : x0 . f = x1 . g . h , x1 = k ;",
        "grammar s -> s t : x2 = x0 . f ;",
        "grammar s -> s t ;",
        "grammar s -> t ;",
        "start s ;",
    };

    public static void main(String[] args) {
        everyPrefix();
        everyPlaceSpoilt();
        everyTokenSwapped();
        twiceLetters();
        twicePairs();
        twiceNames();
        twiceStarts();
        twiceFeatures();
        twiceTags();
        unknownLetters();
        unknownDeepSigns();
        unknownSets();
        unknownGoals();
        unknownX2();
        kindOfCapitals();
        kindOfLikeLetters();
        kindOfTheFourth();
        kindOfRules();
        rings();
        noRoot();
        roundsInOrder();
        lowestPlace();
        leastOfOnePlace();
        House.close("FaultEdgesTest");
    }

    private static void everyPrefix() {
        House.asks("SYNTAX: .. it can't stand there (the end, too: the text's length");
        for (String declaration : DECLARATIONS) {
            String[] tokens = declaration.split(" ");
            StringBuilder text = new StringBuilder(declaration.contains("Root {") ? "" : ROOT);
            for (int i = 0; i < tokens.length - 1; i++) {
                text.append(' ').append(tokens[i]);
                House.due("read() of " + text, House.fault(text.toString()), 1 + 16L * text.length());
                String wide = text + " % note";
                House.due("read() of " + wide, House.fault(wide), 1 + 16L * wide.length());
            }
        }
        House.fine(String.join(" ", DECLARATIONS));
    }

    private static void everyPlaceSpoilt() {
        House.asks("1 SYNTAX: no token begins so, or it is too long");
        for (String declaration : DECLARATIONS) {
            String[] tokens = declaration.split(" ");
            StringBuilder ahead = new StringBuilder();
            for (String token : tokens) {
                for (String bad : new String[] {"!", "\0", "1234", "12a", "abcdefghijklm", "-", "<"}) {
                    House.due("read() of " + ahead + bad, House.fault(ahead + bad + " " + token), 1 + 16L * ahead.length());
                }
                ahead.append(token).append(' ');
            }
        }
    }

    /** Any token in place of any other, or ahead of it, or none: as a second reading of the document has it. */
    private static void everyTokenSwapped() {
        House.asks("1 SYNTAX: .. it can't stand there");
        String[] others = {"a", "A", "q", "Sa", "Zz", "aaaaaaa", "0", "00", "7", "10", ";", ":", ",", ".", "=", "|", "*", "?", "#",
            "_", "@", "{", "}", "(", ")", "->", "=>", "<=", "<=>", "/<=", "end", "grammar", "letters", "lexicon", "pair",
            "rule", "set", "start", "x0", "x2", ""};
        for (int d = 0; d < DECLARATIONS.length; d++) {
            String[] tokens = DECLARATIONS[d].split(" ");
            for (int i = 0; i < tokens.length; i++) {
                for (String other : others) {
                    compare(d, tokens, i, other, true);
                    compare(d, tokens, i, other, false);
                }
            }
        }
        House.due("answers that differ from the oracle's", Twins.wrong(), 0);
    }

    private static void compare(int declaration, String[] tokens, int at, String other, boolean instead) {
        StringBuilder text = new StringBuilder();
        for (int i = 0; i < tokens.length; i++) {
            text.append(i == at ? other + " " : "").append(i == at && instead ? "" : tokens[i] + " ");
        }
        for (int d = 0; d < DECLARATIONS.length; d++) {
            if (d != declaration && (d < 3 || d == 7 || d == 8)) {
                text.append(DECLARATIONS[d]).append(' ');
            }
        }
        Twins twins = new Twins("token " + at + " of declaration " + declaration + ": " + other);
        twins.tell(text.toString());
        twins.read();
    }

    private static void twiceLetters() {
        House.asks("3 TWICE: a LETTER of letters .. that was told so before");
        House.faultDue(3, "letters a ^a;" + ROOT);
        House.faultDue(3, "letters a b c ^a b;" + ROOT);
        House.faultDue(3, "letters a; " + ROOT + "letters b ^a;");
        House.faultDue(3, "letters A a ^A;" + ROOT);
        House.fine("letters a A b B;" + ROOT);
        House.fine("letters a; set Sa = a a a;" + ROOT);
    }

    private static void twicePairs() {
        House.asks("3 TWICE: .. a PAIR of pair told before");
        House.faultDue(3, "letters a b; pair a:b ^a:b;" + ROOT);
        House.faultDue(3, "letters a b; pair a:b b:a; pair ^a:b;" + ROOT);
        House.faultDue(3, "letters a; pair a:0 ^a:0;" + ROOT);
        House.faultDue(3, "letters a A; pair A:a A:0 ^A:0;" + ROOT);
        House.fine("letters a b A B; pair a:b b:a a:0 b:0 A:a A:b B:a;" + ROOT);
    }

    private static void twiceNames() {
        House.asks("3 TWICE: .. a SET, a rule's NAME, a lexicon's that was told so before");
        House.faultDue(3, "letters a b; set Ab = a; set ^Ab = b;" + ROOT);
        House.faultDue(3, "letters a; rule r a:a => _; rule ^r a:a <= _;" + ROOT);
        House.faultDue(3, ROOT + " lexicon ^Root { }");
        House.faultDue(3, "lexicon L { } lexicon ^L { }" + ROOT);
        House.fine("letters a; set Ab = a; set AB = a; set ab = a; set Ab1 = a;" + ROOT);
        House.fine("letters a; rule r a:a => _; rule R a:a => _; rule r1 a:a => _;" + ROOT);
        House.fine(ROOT + " lexicon root { } lexicon ROOT { } lexicon Roo { } lexicon Root1 { }");
        // one NAME of each kind
        House.fine("letters a; set Root = a; rule Root a:a => Root _; grammar Root -> Root; start Root;"
                + "lexicon Root { a -> Root {Root Root}; }");
        House.fine("grammar s -> s; grammar s -> s; grammar s -> s s;" + ROOT);
    }

    private static void twiceStarts() {
        House.asks("3 TWICE: .. a second start (at start)");
        House.faultDue(3, "start s; ^start s;" + ROOT);
        House.faultDue(3, "start s;" + ROOT + "^start t; start u;");
        House.fine("start s;" + ROOT);
    }

    private static void twiceFeatures() {
        House.asks("3 TWICE: .. a FEATURE's NAME that its STRUCTURE has already");
        String entry = "letters a; lexicon Root { a -> end ";
        House.faultDue(3, entry + "{f p ^f p}; }");
        House.faultDue(3, entry + "{f p g q ^f {}}; }");
        House.faultDue(3, entry + "{f #1 ^f #1}; }");
        House.faultDue(3, entry + "{f {g p h q ^g r}}; }");
        House.faultDue(3, entry + "{f #1={g p ^g p}}; }");
        House.faultDue(3, entry + "{f {f p} ^f {f p}}; }");
        House.faultDue(3, entry + "{f p}; a -> end {g {} ^g {}}; }");
        House.fine(entry + "{f {f {f p}} g {f p} h {f {}}}; }");
        House.fine(entry + "{f p F p f1 p ff p}; a -> end {f p}; }");
    }

    private static void twiceTags() {
        House.asks("3 TWICE: .. a TAG that has been given a value (=) before in this ENTRY (at \"#\")");
        String entry = "letters a; lexicon Root { a -> end ";
        House.faultDue(3, entry + "{f #1=p g ^#1=p}; }");
        House.faultDue(3, entry + "{f #1={} g ^#1={}}; }");
        House.faultDue(3, entry + "{f #1=p g ^#01=q}; }");
        House.faultDue(3, entry + "{f #1={g ^#1=p}}; }");
        House.faultDue(3, entry + "{f #1 g #1=p h #1 i ^#1={} j #1=q}; }");
        House.faultDue(3, entry + "{f #1=p g #2=q h ^#1=p}; }");
        House.faultDue(3, entry + "{f #2=p g #1=q h ^#2={}}; }");
        House.faultDue(3, entry + "{a #0=p b #1=p c #2=p d #3=p e #4=p f #5=p g #6=p h #7=p i #8=p j #9=p k ^#0=p l #9=p}; }");
        House.fine(entry + "{f #1 g #1=p h #1 i #2=p}; }");
        House.fine(entry + "{f #1=p}; a -> end {f #1=q}; }");
        House.fine(entry + "{f #0 g #0 h #0}; }");
    }

    private static void unknownLetters() {
        House.asks("4 UNKNOWN: a LETTER (in pair, set, rule) that no letters tells (anywhere in the text)");
        House.faultDue(4, "letters a; pair ^b:a;" + ROOT);
        House.faultDue(4, "letters a; pair ^b:0;" + ROOT);
        House.faultDue(4, "letters a; pair a:^b;" + ROOT);
        House.faultDue(4, "letters a; set Ab = a ^b;" + ROOT);
        House.faultDue(4, "letters a; set Ab = ^A;" + ROOT);
        House.faultDue(4, "letters a; rule r ^b:b => _;" + ROOT);
        House.faultDue(4, "letters a; rule r a:a => ^b _;" + ROOT);
        House.faultDue(4, "letters a; rule r a:a => a:^b _;" + ROOT);
        House.faultDue(4, "letters a; rule r a:a => ^b:0 _;" + ROOT);
        House.faultDue(4, "letters a; rule r a:a => ^b:b _;" + ROOT);
        House.faultDue(4, "letters a; rule r a:a => _, _ (a | ^A)*;" + ROOT);
        House.faultDue(4, "pair ^a:0;" + ROOT);
        House.fine("pair A:a b:0; set Ab = a b A; rule r b:0 => A:b _ ; " + ROOT + "letters a b; letters A;");
    }

    private static void unknownDeepSigns() {
        House.asks("4 UNKNOWN: .. a sign of DEEP, digits, too: at the NAME");
        House.faultDue(4, "letters a; lexicon Root { ^b -> end; }");
        House.faultDue(4, "letters a; lexicon Root { ^aaaaab -> end; }");
        House.faultDue(4, "letters a; lexicon Root { ^a0 -> end; }");
        House.faultDue(4, "letters a; lexicon Root { ^a9a -> end; }");
        House.faultDue(4, "letters a; lexicon Root { ^A -> end; }");
        House.faultDue(4, "lexicon Root { a -> end; 0 -> end; } lexicon L { ^b -> end; } letters a;");
        House.fine("lexicon Root { aA -> end; 0 -> end; } letters a A;");
    }

    private static void unknownSets() {
        House.asks("4 UNKNOWN: .. a SET that no set tells");
        House.faultDue(4, "letters a; rule r a:a => ^Ab _;" + ROOT);
        House.faultDue(4, "letters a; rule r a:a => _ a:^Ab;" + ROOT);
        House.faultDue(4, "letters a; rule r a:a => _ ^Ab:0;" + ROOT);
        House.faultDue(4, "letters a; set Ab = a; rule r a:a => Ab:^AB _;" + ROOT);
        House.fine("letters a; rule r a:a => Ab:Ab _ Ab; set Ab = a;" + ROOT);
    }

    private static void unknownGoals() {
        House.asks("4 UNKNOWN: .. a GOAL that is no lexicon");
        House.faultDue(4, "letters a; lexicon Root { a -> ^Next; }");
        House.faultDue(4, "letters a; lexicon Root { a -> ^root 5 {}; }");
        House.faultDue(4, "letters a; lexicon Root { a -> ^a; }");
        House.faultDue(4, "letters a; lexicon Root { a -> ^End; }");
        House.fine("letters a; lexicon Root { a -> a; a -> Root; a -> end; } lexicon a { a -> Root; }");
    }

    private static void unknownX2() {
        House.asks("4 UNKNOWN: .. x2 where there is one NAME behind ->");
        House.faultDue(4, "grammar s -> s : ^x2 = x0;" + ROOT);
        House.faultDue(4, "grammar s -> s : x0 = ^x2;" + ROOT);
        House.faultDue(4, "grammar s -> s 5 : x0 = x1, x1.f = ^x2.f;" + ROOT);
        House.faultDue(4, "grammar s -> s : ^x2.f.g = p;" + ROOT);
        House.faultDue(4, "grammar s -> s s : x0 = x2; grammar s -> s : x0 = ^x2;" + ROOT);
        House.fine("grammar s -> s s : x2 = x0, x1.f = x2.f; grammar s -> s : x1 = x0;" + ROOT);
    }

    private static void kindOfCapitals() {
        House.asks("5 KIND: a PAIR of pair (at it) whose second LETTER is a capital");
        House.faultDue(5, "letters a A; pair ^a:A;" + ROOT);
        House.faultDue(5, "letters A B; pair ^A:B;" + ROOT);
        House.faultDue(5, "letters A; pair ^A:A;" + ROOT);
        House.faultDue(5, "letters z Z; pair Z:z ^z:Z;" + ROOT);
        House.fine("letters a z A Z; pair A:a Z:z A:0 a:z z:a;" + ROOT);
    }

    private static void kindOfLikeLetters() {
        House.asks("5 KIND: .. or of two like small letters");
        House.faultDue(5, "letters a; pair ^a:a;" + ROOT);
        House.faultDue(5, "letters a b; pair a:b b:a; pair a:0 ^b:b;" + ROOT);
        House.fine("letters a b; pair a:b b:a;" + ROOT);
    }

    private static void kindOfTheFourth() {
        House.asks("5 KIND: .. or the 4th of one deep LETTER of all that pair tells");
        House.fine("letters a b c d e; pair a:b a:c;" + ROOT);
        House.fine("letters a b c d e; pair a:b a:c a:d;" + ROOT);
        House.faultDue(5, "letters a b c d e; pair a:b a:c a:d ^a:e;" + ROOT);
        House.faultDue(5, "letters a b c d e; pair a:b; pair a:c e:0; pair a:0 b:0; pair ^a:d a:e;" + ROOT);
        House.faultDue(5, "letters a b c d A; pair A:a A:b A:c ^A:d;" + ROOT);
        House.faultDue(5, "letters a b c d A; pair A:a A:b A:c ^A:0;" + ROOT);
        House.fine("letters a b c d A; pair A:a A:b A:c a:b a:c a:d b:a b:c b:d;" + ROOT);
    }

    private static void kindOfRules() {
        House.asks("5 KIND: .. the PAIR behind a rule's NAME that is not FEASIBLE (at its first token; ..)");
        House.faultDue(5, "letters a b; rule r ^a:b => _;" + ROOT);
        House.faultDue(5, "letters a; rule r ^a:0 => _;" + ROOT);
        House.faultDue(5, "letters A a; rule r ^A:a => _;" + ROOT);
        House.faultDue(5, "letters A; rule r ^A:A => _;" + ROOT);
        House.faultDue(5, "letters a b; pair b:a; rule r ^a:b => _;" + ROOT);
        House.fine("letters a b; rule r a:a => _; rule q b:b => _;" + ROOT);
        House.fine("letters a b; rule r a:b => _; rule q a:0 => _; pair a:b a:0;" + ROOT);
        House.asks("5 KIND: .. one with an UNKNOWN LETTER, too, unless pair tells it");
        House.faultDue(5, "letters a; rule r ^a:q => _;" + ROOT);
        House.faultDue(4, "letters a; rule r ^q:a => _;" + ROOT);
        House.faultDue(4, "letters a; rule r a:^q => _; pair a:q;" + ROOT);
        House.faultDue(4, "letters a; rule r ^q:q => _;" + ROOT);
    }

    private static void rings() {
        House.asks("6 RING: an ENTRY's STRUCTURE that lies within itself (at its first {)");
        String entry = "letters a; lexicon Root { a -> end 5 ";
        House.faultDue(6, entry + "^{f #1={f #1}}; }");
        House.faultDue(6, entry + "^{f #1={g {h {i #1}}}}; }");
        House.faultDue(6, entry + "^{f #1={g #2} h #2={g #1}}; }");
        House.faultDue(6, entry + "^{f #1={g #2={h #3={i #1}}}}; }");
        House.faultDue(6, entry + "{f p}; a -> end ^{f {g #1 h #1={i #1}}}; }");
        House.faultDue(6, entry + "{f #1={} g #1}; } lexicon L { a -> end ^{f #1={f #1}}; }");
        House.fine(entry + "{f #1={g #2} h #2={g #3} i #3}; }");
        House.fine(entry + "{f #1={g #2} h #2 i #1}; a -> end {f #2={g #1} h #1}; }");
        House.fine(entry + "{f #1=p g {h #1}}; }");
    }

    private static void noRoot() {
        House.asks("7 there is no lexicon Root (at the text's length)");
        House.faultDue(7, "^");
        House.faultDue(7, " \n^");
        House.faultDue(7, "letters a;^");
        House.faultDue(7, "lexicon Roo { }^");
        House.faultDue(7, "lexicon root { } lexicon Root1 { }  ^");
        House.faultDue(7, "grammar Root -> Root; start Root; % lexicon Root { }^");
        House.fine(ROOT);
        House.fine("lexicon A { 0 -> Root; } lexicon Root { }");
    }

    private static void roundsInOrder() {
        House.asks("FAULTS, in rounds; .. a later round only if there is none.");
        String ring = "lexicon L { 0 -> end {f #1={f #1}}; }";
        House.faultDue(1, "letters a a; pair q:a a:a;" + ring + "^!");
        House.faultDue(2, "letters a a; pair q:a a:a;" + ring + "rule r a:a => _,_,_,^_;");
        House.faultDue(3, ring + "letters a ^a;");
        House.faultDue(4, ring + "pair ^a:0;");
        House.faultDue(5, ring + "letters a; pair ^a:a;");
        House.faultDue(6, "letters a; lexicon L { a -> end ^{f #1={f #1}}; }");
        House.faultDue(7, "letters a; lexicon L { a -> end {f #1={f #2}}; }^");
        House.faultDue(1, "start s; start s; lexicon ^;");
        House.faultDue(3, "start s; ^start s; lexicon L { }");
    }

    private static void lowestPlace() {
        House.asks("of one round the one of the lowest place");
        House.faultDue(5, "letters a b; pair ^a:a; letters a; pair q:a;" + ROOT);
        House.faultDue(4, "letters a b; pair b:^q; pair a:a; letters a;" + ROOT);
        House.faultDue(3, "letters a b ^a; pair a:a q:a;" + ROOT);
        House.faultDue(4, "letters a; set Ab = ^q; set Ab = a;" + ROOT);
        House.faultDue(3, "letters a; set Ab = a; set ^Ab = q;" + ROOT);
        House.faultDue(4, "lexicon Root { 0 -> ^No {f p f p}; }");
        House.faultDue(3, "lexicon Root { 0 -> end {f p ^f p}; 0 -> No; }");
        House.faultDue(4, "lexicon Root { ^b -> No; } lexicon Root { }");
        House.faultDue(6, "lexicon A { 0 -> end ^{f #1={f #1}}; 0 -> end {g #1={f #1}}; }");
        House.faultDue(4, "grammar s -> s : x0 = ^x2; start s; start s;" + ROOT);
        House.faultDue(3, "start s; ^start s; grammar s -> s : x0 = x2;" + ROOT);
    }

    private static void leastOfOnePlace() {
        House.asks("of one place the least");
        // told before and the 4th of its deep LETTER
        House.faultDue(3, "letters a b c d; pair a:b a:c a:d ^a:b;" + ROOT);
        // an UNKNOWN LETTER in a PAIR of KIND
        House.faultDue(4, "letters a A; pair ^q:A;" + ROOT);
        House.faultDue(4, "letters a; pair ^q:q;" + ROOT);
        House.faultDue(4, "letters a; rule r ^q:a => _;" + ROOT);
        // KIND at its first LETTER is ahead of UNKNOWN at its second one
        House.faultDue(5, "letters a A; pair ^a:Q;" + ROOT);
    }
}
