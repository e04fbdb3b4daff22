import java.util.ArrayList;
import java.util.List;
import java.util.Random;

/** Makes texts, words and structures by chance (from a seed), mostly sound ones. */
final class Tongue {
    final Random chance;
    String smalls = "ab";
    String capitals = "";
    final List<String> pairs = new ArrayList<>();
    final List<String> sets = new ArrayList<>();
    final List<String> cats = new ArrayList<>();
    private final List<String> lexicons = new ArrayList<>();
    /** Of each entry: its lexicon, its deep side, its goal. */
    private final List<String[]> entries = new ArrayList<>();
    int rules;

    Tongue(long seed) {
        chance = new Random(seed);
    }

    int upTo(int n) {
        return chance.nextInt(n + 1);
    }

    <T> T one(List<T> list) {
        return list.get(chance.nextInt(list.size()));
    }

    char letter(String s) {
        return s.charAt(chance.nextInt(s.length()));
    }

    boolean odds(int percent) {
        return chance.nextInt(100) < percent;
    }

    String text() {
        smalls = "abcdefgh".substring(0, 1 + upTo(3));
        capitals = "ABC".substring(0, upTo(3));
        cats.addAll(List.of("s", "t", "v"));
        StringBuilder s = new StringBuilder("letters");
        for (char c : (smalls + capitals).toCharArray()) {
            s.append(' ').append(c);
        }
        s.append(";\n");
        pairs(s);
        int setCount = upTo(2);
        for (int i = 0; i < setCount; i++) {
            String name = "Set" + i;
            sets.add(name);
            s.append("set ").append(name).append(" =");
            int n = 1 + upTo(2);
            for (int k = 0; k < n; k++) {
                s.append(' ').append(letter(smalls + capitals));
            }
            s.append(";\n");
        }
        rules = upTo(4);
        for (int r = 0; r < rules; r++) {
            rule(s, r);
        }
        lexicons(s);
        int grammar = upTo(5);
        for (int g = 0; g < grammar; g++) {
            grammar(s);
        }
        if (odds(95)) {
            s.append("start ").append(one(cats)).append(";");
        }
        return s.toString();
    }

    private void pairs(StringBuilder s) {
        for (char c : smalls.toCharArray()) {
            pairs.add(c + ":" + c);
        }
        List<String> told = new ArrayList<>();
        for (char deep : (smalls + capitals).toCharArray()) {
            int n = Character.isUpperCase(deep) ? upTo(3) : upTo(6) / 4;
            for (int k = 0; k < n; k++) {
                String pair = deep + ":" + (odds(30) ? '0' : letter(smalls));
                if (!told.contains(pair) && !pairs.contains(pair) && told.size() < 10) {
                    told.add(pair);
                }
            }
        }
        pairs.addAll(told);
        if (!told.isEmpty()) {
            s.append("pair ").append(String.join(" ", told)).append(";\n");
        }
    }

    private void rule(StringBuilder s, int r) {
        String op = one(List.of("=>", "<=", "<=>", "/<="));
        s.append("rule r").append(r).append(' ').append(one(pairs)).append(' ').append(op).append(' ');
        int contexts = 1 + upTo(4) / 2;
        for (int c = 0; c < contexts; c++) {
            s.append(c > 0 ? ", " : "");
            if (odds(65)) {
                s.append(re(2));
            }
            s.append(" _ ");
            if (odds(65)) {
                s.append(re(2));
            }
        }
        s.append(";\n");
    }

    private String re(int depth) {
        StringBuilder s = new StringBuilder();
        int rows = odds(75) ? 1 : 2;
        for (int r = 0; r < rows; r++) {
            s.append(r > 0 ? " | " : "");
            int parts = 1 + upTo(3) / 2;
            for (int p = 0; p < parts; p++) {
                s.append(' ').append(depth > 0 && odds(20) ? "(" + re(depth - 1) + ")" : atom());
                s.append(odds(15) ? "*" : odds(15) ? "?" : "");
            }
        }
        return s.toString();
    }

    private String atom() {
        if (odds(15)) {
            return "#";
        }
        String deep = side();
        return odds(55) ? deep : deep + ":" + (odds(20) ? "0" : side());
    }

    private String side() {
        if (!sets.isEmpty() && odds(25)) {
            return one(sets);
        }
        return odds(15) ? "@" : String.valueOf(letter(smalls + capitals));
    }

    private void lexicons(StringBuilder s) {
        lexicons.addAll(List.of("Root", "Next", "Last").subList(0, 1 + upTo(2)));
        for (String name : lexicons) {
            s.append("lexicon ").append(name).append(" {");
            int n = 1 + upTo(5);
            for (int e = 0; e < n; e++) {
                StringBuilder deep = new StringBuilder();
                int length = upTo(3);
                for (int k = 0; k < length; k++) {
                    deep.append(letter(smalls + capitals));
                }
                entry(s, name, deep.toString(), odds(65) ? "end" : one(lexicons));
            }
            s.append(" }\n");
        }
    }

    private void entry(StringBuilder s, String lexicon, String deep, String goal) {
        entries.add(new String[] {lexicon, deep, goal});
        s.append(' ').append(deep.isEmpty() ? "0" : deep).append(" -> ").append(goal);
        s.append(odds(40) ? " " + upTo(12) : "");
        if (odds(80)) {
            s.append(" {").append(odds(80) ? "cat " + one(cats) : "");
            s.append(odds(50) ? " " + features(1, new int[] {4}, "fghi") : "").append("}");
        }
        s.append(";");
    }

    /** A text with few letters and many rules for sentences. */
    String sentenceText() {
        smalls = "abc".substring(0, 1 + upTo(2));
        cats.addAll(List.of("s", "t", "v").subList(0, 1 + upTo(2)));
        StringBuilder s = new StringBuilder("letters");
        for (char c : smalls.toCharArray()) {
            s.append(' ').append(c);
            pairs.add(c + ":" + c);
        }
        s.append(";\nlexicon Root {");
        lexicons.add("Root");
        int n = 1 + upTo(5);
        for (int e = 0; e < n; e++) {
            entry(s, "Root", String.valueOf(letter(smalls)), "end");
        }
        s.append(" }\n");
        int grammar = 1 + upTo(odds(20) ? 11 : 4);
        for (int g = 0; g < grammar; g++) {
            grammar(s);
        }
        return s.append("start ").append(one(cats)).append(";").toString();
    }

    /** A word that a way through the lexicons comes to, most often. */
    String likelyWord() {
        for (int tries = 0; tries < 20 && odds(90) && !entries.isEmpty(); tries++) {
            StringBuilder written = new StringBuilder();
            String lexicon = "Root";
            for (int k = 0; k < 4 && !lexicon.equals("end"); k++) {
                String[] entry = one(entries);
                for (int t = 0; t < 50 && !entry[0].equals(lexicon); t++) {
                    entry = one(entries);
                }
                for (char deep : entry[1].toCharArray()) {
                    List<String> fit = pairs.stream().filter(p -> p.charAt(0) == deep).toList();
                    written.append(fit.isEmpty() ? "a" : one(fit).substring(2).replace("0", ""));
                }
                lexicon = entry[2];
            }
            if (lexicon.equals("end") && written.length() > 0 && written.length() <= 16) {
                return written.toString();
            }
        }
        return word(6);
    }

    /** A structure, with tags now and then. */
    String structure() {
        return "{" + features(3, new int[] {10}, "fghijk") + "}";
    }

    /** A structure with names of its own, so that several of them come to more than 40 features. */
    String wideStructure() {
        StringBuilder s = new StringBuilder("{");
        int n = 8 + upTo(12);
        for (int k = 0; k < n; k++) {
            String value = odds(60) ? "v" : odds(50) ? "{}" : "#" + upTo(9);
            s.append(' ').append(letter("abcd")).append(k).append(letter("xy")).append(' ').append(value);
        }
        return s.append("}").toString();
    }

    /** A declaration of names taken by chance, told ones and others, often once too often. */
    String roughText() {
        StringBuilder s = new StringBuilder();
        int n = 1 + upTo(9);
        for (int k = 0; k < n; k++) {
            switch (upTo(7)) {
                case 0 -> s.append("letters ").append(many("abcdABC", 5)).append(";");
                case 1 -> {
                    s.append("pair ");
                    int m = 1 + upTo(odds(20) ? 11 : 3);
                    for (int i = 0; i < m; i++) {
                        s.append(letter("abcA")).append(':').append(letter("abcA00")).append(' ');
                    }
                    s.append(";");
                }
                case 2 -> s.append("set ").append(one(List.of("Sa", "Sb", "Sc"))).append(" = ")
                        .append(many("abcA", 3)).append(";");
                case 3 -> {
                    s.append("rule ").append(one(List.of("r", "q", "rr"))).append(' ');
                    s.append(letter("abcA")).append(':').append(letter("abcA0")).append(" => ");
                    s.append(odds(50) ? one(List.of("a", "b:c", "A:0", "Sa", "Sb:Sc", "#", "@:Sa", "(a|b)*")) : "");
                    s.append(" _ ").append(odds(30) ? letter("abcA") : ' ').append(";");
                }
                case 4 -> {
                    s.append("lexicon ").append(one(List.of("Root", "Aa", "Bb"))).append(" {");
                    int m = upTo(3);
                    for (int i = 0; i < m; i++) {
                        s.append(odds(10) ? "0" : odds(10) ? "a1" : String.valueOf(letter("abcA")));
                        s.append(" -> ").append(one(List.of("end", "Root", "Aa", "Bb")));
                        s.append(odds(40) ? " " + roughStructure(2) : "").append(";");
                    }
                    s.append("}");
                }
                case 5 -> s.append("grammar s -> t ").append(odds(50) ? "t" : "").append(" : x")
                        .append(upTo(2)).append(".f = x").append(upTo(2)).append(".g;");
                case 6 -> s.append(odds(30) ? "start s;" : "");
                default -> s.append("lexicon Root {} ".substring(0, odds(30) ? 16 : 0));
            }
            s.append(odds(20) ? "\n" : " ");
        }
        return s.toString();
    }

    String roughStructure(int depth) {
        StringBuilder s = new StringBuilder("{");
        int n = upTo(3);
        for (int k = 0; k < n; k++) {
            s.append(letter("fgh")).append(' ');
            if (odds(50)) {
                s.append('#').append(1 + upTo(1)).append(odds(50) ? " " : "=");
            }
            boolean alone = s.charAt(s.length() - 1) == ' ' && s.charAt(s.length() - 2) != 'f'
                    && Character.isDigit(s.charAt(s.length() - 2));
            if (!alone) {
                s.append(depth > 0 && odds(60) ? roughStructure(depth - 1) : "p ");
            }
        }
        return s.append("}").toString();
    }

    private String many(String from, int most) {
        StringBuilder s = new StringBuilder();
        int n = 1 + upTo(odds(10) ? 4 * most : most - 1);
        for (int k = 0; k < n; k++) {
            s.append(letter(from)).append(' ');
        }
        return s.toString();
    }

    private String features(int depth, int[] left, String names) {
        StringBuilder s = new StringBuilder();
        String rest = names;
        int n = upTo(3);
        for (int k = 0; k < n && left[0] > 0 && !rest.isEmpty(); k++) {
            left[0]--;
            char name = letter(rest);
            rest = rest.replace(String.valueOf(name), "");
            s.append(s.length() > 0 ? " " : "").append(name).append(' ');
            if (odds(35)) {
                s.append('#').append(1 + upTo(2));
                if (odds(55)) {
                    continue;
                }
                s.append('=');
            }
            if (depth > 0 && odds(50)) {
                s.append('{').append(features(depth - 1, left, names)).append('}');
            } else {
                s.append(letter("pqr"));
            }
        }
        return s.toString();
    }

    private void grammar(StringBuilder s) {
        boolean two = odds(70);
        s.append("grammar ").append(one(cats)).append(" -> ").append(one(cats));
        s.append(two ? " " + one(cats) : "").append(odds(50) ? " " + upTo(9) : "");
        if (odds(60)) {
            int n = 1 + upTo(3);
            for (int e = 0; e < n; e++) {
                s.append(e == 0 ? " : " : ", ").append(path(two)).append(" = ");
                s.append(odds(30) ? String.valueOf(letter("pqr")) : path(two));
            }
        }
        s.append(";\n");
    }

    private String path(boolean two) {
        StringBuilder s = new StringBuilder("x").append(upTo(two ? 2 : 1));
        int n = odds(10) ? 0 : 1 + upTo(2) / 2;
        for (int k = 0; k < n; k++) {
            s.append('.').append(letter("fghi"));
        }
        return s.toString();
    }

    String word(int most) {
        StringBuilder s = new StringBuilder();
        int n = 1 + upTo(most - 1);
        for (int k = 0; k < n; k++) {
            s.append(letter(smalls));
        }
        return s.toString();
    }

    String pairRow() {
        StringBuilder s = new StringBuilder();
        int n = upTo(8);
        for (int k = 0; k < n; k++) {
            s.append(pairs.isEmpty() ? "aa" : one(pairs).replace(":", ""));
        }
        return s.toString();
    }

    String deepSide() {
        StringBuilder s = new StringBuilder();
        int n = 1 + upTo(6);
        for (int k = 0; k < n; k++) {
            s.append(letter(smalls + capitals));
        }
        return s.toString();
    }

    /** A text with a fault here or there, perhaps. */
    String spoilt(String s) {
        StringBuilder b = new StringBuilder(s);
        int times = 1 + upTo(2);
        for (int t = 0; t < times && b.length() > 4; t++) {
            int at = upTo(b.length() - 1);
            String[] bits = {"a", "Z", "q", "0", "1", "007", "1234", "ab", "Root", "end", "set", "rule", "x0", "x2",
                "start s;", ";", ":", ",", ".", "=", "|", "*", "?", "#", "_", "@", "{", "}", "(", ")", "->", "=>", "<=",
                "<=>", "/<=", "-", "<", "/", "\0", "%", "\n", "\r", "\t", "\u00ff", "abcdefghijklm", "abcdefghijkl",
                "#10", "#9={}", " "};
            switch (upTo(4)) {
                case 0 -> b.deleteCharAt(at);
                case 1 -> b.insert(at, bits[upTo(bits.length - 1)]);
                case 2 -> b.setLength(at);
                case 3 -> {
                    int to = Math.min(b.length(), at + upTo(12));
                    b.insert(upTo(b.length() - 1), b.substring(at, to));
                }
                default -> b.setCharAt(at, (char) upTo(255));
            }
        }
        return b.toString();
    }
}
