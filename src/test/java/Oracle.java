import java.util.ArrayList;
import java.util.Comparator;
import java.util.HashMap;
import java.util.HashSet;
import java.util.IdentityHashMap;
import java.util.List;
import java.util.Map;
import java.util.Set;
import java.util.TreeMap;
import java.util.TreeSet;

/** A second reading of the document, by its words and without care for speed, that the class is compared with. */
final class Oracle {
    static final int NONE = -1;
    static final int MANY = -2;

    private static final class Fault extends RuntimeException {
        private static final long serialVersionUID = 1L;
        final int code;

        Fault(int fault, int place) {
            code = fault + 16 * place;
        }
    }

    // ---------------------------------------------------------------- tokens

    private static final Set<String> WORDS =
            Set.of("end", "grammar", "letters", "lexicon", "pair", "rule", "set", "start", "x0", "x1", "x2");
    private static final String[] SIGNS = {"<=>", "/<=", "->", "=>", "<=", ";", ":", ",", ".", "=", "|", "*", "?", "#",
        "_", "@", "{", "}", "(", ")"};

    private record Token(String kind, String text, int place) {
        boolean is(String s) {
            return kind.equals("sign") && text.equals(s) || kind.equals("word") && text.equals(s);
        }

        boolean name() {
            return kind.equals("name");
        }

        boolean letter() {
            return name() && text.length() == 1;
        }

        boolean zero() {
            return kind.equals("number") && text.equals("0");
        }
    }

    private static List<Token> tokens(String s) {
        List<Token> all = new ArrayList<>();
        int i = 0;
        while (true) {
            while (i < s.length() && "\t\n\r %".indexOf(s.charAt(i)) >= 0) {
                if (s.charAt(i) == '%') {
                    while (i < s.length() && s.charAt(i) != '\n') {
                        i++;
                    }
                } else {
                    i++;
                }
            }
            if (i >= s.length()) {
                all.add(new Token("end", "", s.length()));
                return all;
            }
            String rest = s.substring(i);
            String run = rest.replaceAll("(?s)[^A-Za-z0-9].*", "");
            Token token = null;
            if (!run.isEmpty()) {
                if (run.matches("[0-9]{1,3}")) {
                    token = new Token("number", run, i);
                } else if (run.matches("[A-Za-z][A-Za-z0-9]{0,11}")) {
                    token = new Token(WORDS.contains(run) ? "word" : "name", run, i);
                }
            } else {
                for (String sign : SIGNS) {
                    if (token == null && rest.startsWith(sign)) {
                        token = new Token("sign", sign, i);
                    }
                }
            }
            if (token == null) {
                all.add(new Token("bad", "", i));
                return all;
            }
            all.add(token);
            i += token.text.length();
        }
    }

    // ---------------------------------------------------------------- what a text tells

    private record Pair(char deep, char written, int place, int writtenPlace) {
        boolean same(Pair p) {
            return p.deep == deep && p.written == written;
        }
    }

    private record Side(String text, int place) { }

    private static final class Re {
        char kind; // a atom, # border, c chain, o choice, * ?
        Side deep;
        Side written;
        List<Re> parts = new ArrayList<>();

        Re(char kind) {
            this.kind = kind;
        }
    }

    private record Context(Re left, Re right) { }

    private static final class RuleTold {
        String name;
        int place;
        Pair pair;
        String op;
        List<Context> contexts = new ArrayList<>();
        int atoms;
    }

    private static final class StructTold {
        int place;
        List<FeatureTold> features = new ArrayList<>();
    }

    private static final class FeatureTold {
        String name;
        int place;
        int tag = -1;
        int tagPlace;
        boolean given;
        String atom;
        StructTold struct;
    }

    private static final class EntryTold {
        String deep;
        int place;
        String goal;
        int goalPlace;
        int lexicon;
        int cost;
        StructTold struct;
        Node shape;
    }

    private record Path(int root, List<String> names, String atom, int place) { }

    private record Equation(Path left, Path right) { }

    private static final class GrammarTold {
        String head;
        String first;
        String second;
        int cost;
        List<Equation> equations = new ArrayList<>();
    }

    private record Told(String name, int place) { }

    private static final class SetTold {
        String name;
        int place;
        List<Side> letters = new ArrayList<>();
    }

    private static final class TextTold {
        List<Side> letters = new ArrayList<>();
        List<Pair> pairs = new ArrayList<>();
        List<SetTold> sets = new ArrayList<>();
        List<RuleTold> rules = new ArrayList<>();
        List<Told> lexicons = new ArrayList<>();
        List<EntryTold> entries = new ArrayList<>();
        List<GrammarTold> grammar = new ArrayList<>();
        List<Told> starts = new ArrayList<>();
        List<Pair> feasible = new ArrayList<>();

        boolean isLetter(char c) {
            return letters.stream().anyMatch(l -> l.text.charAt(0) == c);
        }

        boolean inSet(String set, char c) {
            for (SetTold s : sets) {
                if (s.name.equals(set)) {
                    return s.letters.stream().anyMatch(l -> l.text.charAt(0) == c);
                }
            }
            return false;
        }

        boolean isLexicon(String name) {
            return lexicons.stream().anyMatch(l -> l.name.equals(name));
        }
    }

    // ---------------------------------------------------------------- the first round

    private static final class Parser {
        final List<Token> tokens;
        int at;

        Parser(String s) {
            tokens = tokens(s);
        }

        Token now() {
            return tokens.get(at);
        }

        Fault syntax() {
            return new Fault(1, now().place);
        }

        Fault limit() {
            return new Fault(2, now().place);
        }

        Token sign(String s) {
            if (!now().is(s)) {
                throw syntax();
            }
            return tokens.get(at++);
        }

        Token name() {
            if (!now().name()) {
                throw syntax();
            }
            return tokens.get(at++);
        }

        Token letter() {
            if (!now().letter()) {
                throw syntax();
            }
            return tokens.get(at++);
        }

        TextTold text() {
            TextTold t = new TextTold();
            while (!now().kind.equals("end")) {
                Token w = now();
                if (!w.kind.equals("word")) {
                    throw syntax();
                }
                switch (w.text) {
                    case "letters" -> {
                        at++;
                        do {
                            if (now().letter() && t.letters.size() == 14) {
                                throw limit();
                            }
                            Token l = letter();
                            t.letters.add(new Side(l.text, l.place));
                        } while (!now().is(";"));
                        sign(";");
                    }
                    case "pair" -> {
                        at++;
                        do {
                            if (now().letter() && t.pairs.size() == 10) {
                                throw limit();
                            }
                            t.pairs.add(pair());
                        } while (!now().is(";"));
                        sign(";");
                    }
                    case "set" -> set(t);
                    case "rule" -> rule(t);
                    case "lexicon" -> lexicon(t);
                    case "grammar" -> grammar(t);
                    case "start" -> {
                        at++;
                        t.starts.add(new Told(name().text, w.place));
                        sign(";");
                    }
                    default -> throw syntax();
                }
            }
            return t;
        }

        Pair pair() {
            Token deep = letter();
            sign(":");
            if (now().zero()) {
                int p = tokens.get(at++).place;
                return new Pair(deep.text.charAt(0), '0', deep.place, p);
            }
            Token written = letter();
            return new Pair(deep.text.charAt(0), written.text.charAt(0), deep.place, written.place);
        }

        void set(TextTold t) {
            if (t.sets.size() == 8) {
                throw limit();
            }
            at++;
            if (now().letter()) {
                throw syntax();
            }
            Token n = name();
            SetTold s = new SetTold();
            s.name = n.text;
            s.place = n.place;
            sign("=");
            do {
                Token l = letter();
                s.letters.add(new Side(l.text, l.place));
            } while (!now().is(";"));
            sign(";");
            t.sets.add(s);
        }

        void rule(TextTold t) {
            if (t.rules.size() == 8) {
                throw limit();
            }
            at++;
            RuleTold r = new RuleTold();
            Token n = name();
            r.name = n.text;
            r.place = n.place;
            r.pair = pair();
            if (!now().is("=>") && !now().is("<=") && !now().is("<=>") && !now().is("/<=")) {
                throw syntax();
            }
            r.op = tokens.get(at++).text;
            while (true) {
                if (!startsAtom() && !now().is("_")) {
                    throw syntax();
                }
                if (r.contexts.size() == 3) {
                    throw limit();
                }
                Re left = startsAtom() ? re(r, 0) : null;
                sign("_");
                Re right = startsAtom() ? re(r, 0) : null;
                r.contexts.add(new Context(left, right));
                if (now().is(";")) {
                    break;
                }
                sign(",");
            }
            sign(";");
            t.rules.add(r);
        }

        boolean startsAtom() {
            return now().name() || now().is("@") || now().is("#") || now().is("(");
        }

        Re re(RuleTold r, int depth) {
            Re choice = new Re('o');
            choice.parts.add(row(r, depth));
            while (now().is("|")) {
                at++;
                choice.parts.add(row(r, depth));
            }
            return choice;
        }

        Re row(RuleTold r, int depth) {
            Re row = new Re('c');
            do {
                row.parts.add(part(r, depth));
            } while (startsAtom());
            return row;
        }

        Re part(RuleTold r, int depth) {
            Re atom = atom(r, depth);
            if (now().is("*") || now().is("?")) {
                Re more = new Re(now().text.charAt(0));
                at++;
                more.parts.add(atom);
                return more;
            }
            return atom;
        }

        Re atom(RuleTold r, int depth) {
            if (!startsAtom()) {
                throw syntax();
            }
            if (now().is("(")) {
                if (depth == 8) {
                    throw limit();
                }
                at++;
                Re inner = re(r, depth + 1);
                sign(")");
                return inner;
            }
            if (r.atoms == 24) {
                throw limit();
            }
            r.atoms++;
            if (now().is("#")) {
                at++;
                return new Re('#');
            }
            Re atom = new Re('a');
            atom.deep = side();
            atom.written = atom.deep;
            if (now().is(":")) {
                at++;
                atom.written = now().zero() ? new Side("0", tokens.get(at++).place) : side();
            }
            return atom;
        }

        Side side() {
            if (!now().name() && !now().is("@")) {
                throw syntax();
            }
            Token s = tokens.get(at++);
            return new Side(s.text, s.place);
        }

        void lexicon(TextTold t) {
            if (t.lexicons.size() == 6) {
                throw limit();
            }
            at++;
            Token n = name();
            int number = t.lexicons.size();
            t.lexicons.add(new Told(n.text, n.place));
            sign("{");
            int count = 0;
            while (!now().is("}")) {
                if (!now().name() && !now().zero()) {
                    throw syntax();
                }
                if (count == 8) {
                    throw limit();
                }
                count++;
                EntryTold e = new EntryTold();
                e.lexicon = number;
                if (now().name() && now().text.length() > 6) {
                    throw limit();
                }
                e.deep = now().zero() ? "" : now().text;
                e.place = now().place;
                at++;
                sign("->");
                if (!now().name() && !now().is("end")) {
                    throw syntax();
                }
                e.goal = now().name() ? now().text : null;
                e.goalPlace = now().place;
                at++;
                if (now().kind.equals("number")) {
                    e.cost = Integer.parseInt(tokens.get(at++).text);
                }
                if (now().is("{")) {
                    e.struct = struct(0, new int[1]);
                }
                sign(";");
                t.entries.add(e);
            }
            sign("}");
        }

        StructTold struct(int depth, int[] features) {
            if (!now().is("{")) {
                throw syntax();
            }
            if (depth == 6) {
                throw limit();
            }
            StructTold s = new StructTold();
            s.place = now().place;
            at++;
            while (!now().is("}")) {
                if (!now().name()) {
                    throw syntax();
                }
                if (features[0] == 20) {
                    throw limit();
                }
                features[0]++;
                FeatureTold f = new FeatureTold();
                f.name = now().text;
                f.place = now().place;
                at++;
                boolean valued = true;
                if (now().is("#")) {
                    f.tagPlace = now().place;
                    at++;
                    if (!now().kind.equals("number")) {
                        throw syntax();
                    }
                    f.tag = Integer.parseInt(now().text);
                    if (f.tag > 9) {
                        throw new Fault(2, f.tagPlace);
                    }
                    at++;
                    valued = now().is("=");
                    if (valued) {
                        f.given = true;
                        at++;
                    }
                }
                if (valued) {
                    if (now().name()) {
                        f.atom = tokens.get(at++).text;
                    } else {
                        f.struct = struct(depth + 1, features);
                    }
                }
                s.features.add(f);
            }
            at++;
            return s;
        }

        void grammar(TextTold t) {
            if (t.grammar.size() == 12) {
                throw limit();
            }
            at++;
            GrammarTold g = new GrammarTold();
            g.head = name().text;
            sign("->");
            g.first = name().text;
            if (now().name()) {
                g.second = name().text;
            }
            if (now().kind.equals("number")) {
                g.cost = Integer.parseInt(tokens.get(at++).text);
            }
            if (now().is(":")) {
                do {
                    at++;
                    if (!root()) {
                        throw syntax();
                    }
                    if (g.equations.size() == 8) {
                        throw limit();
                    }
                    Path left = path();
                    sign("=");
                    if (now().name()) {
                        g.equations.add(new Equation(left, new Path(-1, List.of(), now().text, now().place)));
                        at++;
                    } else {
                        g.equations.add(new Equation(left, path()));
                    }
                } while (now().is(","));
            }
            sign(";");
            t.grammar.add(g);
        }

        boolean root() {
            return now().is("x0") || now().is("x1") || now().is("x2");
        }

        Path path() {
            if (!root()) {
                throw syntax();
            }
            Token r = tokens.get(at++);
            List<String> names = new ArrayList<>();
            while (now().is(".")) {
                at++;
                if (now().name() && names.size() == 4) {
                    throw limit();
                }
                names.add(name().text);
            }
            return new Path(r.text.charAt(1) - '0', names, null, r.place);
        }
    }

    // ---------------------------------------------------------------- the later rounds

    private static final class Later {
        int least = Integer.MAX_VALUE;

        void fault(int code, int place) {
            least = Math.min(least, code + 16 * place);
        }

        void letter(TextTold t, char c, int place) {
            if (!t.isLetter(c)) {
                fault(4, place);
            }
        }

        void check(TextTold t) {
            Set<String> letters = new HashSet<>();
            for (Side l : t.letters) {
                if (!letters.add(l.text)) {
                    fault(3, l.place);
                }
            }
            Set<String> sets = new HashSet<>();
            for (SetTold s : t.sets) {
                if (!sets.add(s.name)) {
                    fault(3, s.place);
                }
                s.letters.forEach(l -> letter(t, l.text.charAt(0), l.place));
            }
            Set<String> lexicons = new HashSet<>();
            for (Told l : t.lexicons) {
                if (!lexicons.add(l.name)) {
                    fault(3, l.place);
                }
            }
            for (int i = 1; i < t.starts.size(); i++) {
                fault(3, t.starts.get(i).place);
            }
            pairs(t);
            rules(t);
            for (EntryTold e : t.entries) {
                for (char c : e.deep.toCharArray()) {
                    letter(t, c, e.place);
                }
                if (e.goal != null && !t.isLexicon(e.goal)) {
                    fault(4, e.goalPlace);
                }
                if (e.struct != null) {
                    struct(e.struct, new HashSet<>());
                }
            }
            for (GrammarTold g : t.grammar) {
                for (Equation q : g.equations) {
                    for (Path p : List.of(q.left, q.right)) {
                        if (p.root == 2 && g.second == null) {
                            fault(4, p.place);
                        }
                    }
                }
            }
        }

        void pairs(TextTold t) {
            for (int i = 0; i < t.pairs.size(); i++) {
                Pair p = t.pairs.get(i);
                int before = 0;
                for (int j = 0; j < i; j++) {
                    Pair q = t.pairs.get(j);
                    if (q.same(p)) {
                        fault(3, p.place);
                    }
                    if (q.deep == p.deep) {
                        before++;
                    }
                }
                letter(t, p.deep, p.place);
                if (p.written != '0') {
                    letter(t, p.written, p.writtenPlace);
                }
                if (Character.isUpperCase(p.written) || p.deep == p.written || before >= 3) {
                    fault(5, p.place);
                }
            }
        }

        void rules(TextTold t) {
            Set<String> names = new HashSet<>();
            for (RuleTold r : t.rules) {
                if (!names.add(r.name)) {
                    fault(3, r.place);
                }
                letter(t, r.pair.deep, r.pair.place);
                if (r.pair.written != '0') {
                    letter(t, r.pair.written, r.pair.writtenPlace);
                }
                boolean told = t.pairs.stream().anyMatch(p -> p.same(r.pair));
                boolean like = r.pair.deep == r.pair.written && Character.isLowerCase(r.pair.deep)
                        && t.isLetter(r.pair.deep);
                if (!told && !like) {
                    fault(5, r.pair.place);
                }
                for (Context c : r.contexts) {
                    re(t, c.left);
                    re(t, c.right);
                }
            }
        }

        void re(TextTold t, Re re) {
            if (re == null) {
                return;
            }
            if (re.kind == 'a') {
                side(t, re.deep);
                side(t, re.written);
            }
            re.parts.forEach(p -> re(t, p));
        }

        void side(TextTold t, Side s) {
            if (s.text.equals("@") || s.text.equals("0")) {
                return;
            }
            if (s.text.length() == 1) {
                letter(t, s.text.charAt(0), s.place);
            } else if (t.sets.stream().noneMatch(x -> x.name.equals(s.text))) {
                fault(4, s.place);
            }
        }

        void struct(StructTold s, Set<Integer> given) {
            Set<String> names = new HashSet<>();
            for (FeatureTold f : s.features) {
                if (!names.add(f.name)) {
                    fault(3, f.place);
                }
                if (f.given && !given.add(f.tag)) {
                    fault(3, f.tagPlace);
                }
                if (f.struct != null) {
                    struct(f.struct, given);
                }
            }
        }
    }

    // ---------------------------------------------------------------- structures

    private static final class Node {
        String atom;
        TreeMap<String, Node> features = new TreeMap<>();
        Node heir;
    }

    private static final class Fails extends RuntimeException {
        private static final long serialVersionUID = 1L;
    }

    private static Node rep(Node n) {
        return n.heir == null ? n : rep(n.heir);
    }

    private static Node build(StructTold s) {
        Node top = new Node();
        if (s != null) {
            fill(top, s, new HashMap<>());
        }
        return top;
    }

    private static void fill(Node top, StructTold s, Map<Integer, Node> tags) {
        for (FeatureTold f : s.features) {
            Node n = f.tag < 0 ? new Node() : tags.computeIfAbsent(f.tag, k -> new Node());
            if (f.atom != null) {
                n.atom = f.atom;
            }
            top.features.put(f.name, n);
            if (f.struct != null) {
                fill(n, f.struct, tags);
            }
        }
    }

    private static boolean ringed(Node n, Set<Node> open, Set<Node> done) {
        n = rep(n);
        if (open.contains(n)) {
            return true;
        }
        if (!done.add(n)) {
            return false;
        }
        open.add(n);
        for (Node c : n.features.values()) {
            if (ringed(c, open, done)) {
                return true;
            }
        }
        open.remove(n);
        return false;
    }

    private static boolean ringed(Node n) {
        return ringed(n, new HashSet<>(), new HashSet<>());
    }

    private static void unifyNodes(Node a, Node b) {
        a = rep(a);
        b = rep(b);
        if (a == b) {
            return;
        }
        if (a.atom != null && b.atom != null && !a.atom.equals(b.atom)
                || a.atom != null && !b.features.isEmpty() || b.atom != null && !a.features.isEmpty()) {
            throw new Fails();
        }
        Node both = new Node();
        both.atom = a.atom != null ? a.atom : b.atom;
        both.features.putAll(a.features);
        a.heir = both;
        b.heir = both;
        for (Map.Entry<String, Node> f : b.features.entrySet()) {
            Node now = rep(both);
            if (now.features.containsKey(f.getKey())) {
                unifyNodes(now.features.get(f.getKey()), f.getValue());
            } else if (now.atom != null) {
                throw new Fails();
            } else {
                now.features.put(f.getKey(), f.getValue());
            }
        }
    }

    private static Node copy(Node n, Map<Node, Node> known) {
        n = rep(n);
        if (known.containsKey(n)) {
            return known.get(n);
        }
        Node c = new Node();
        known.put(n, c);
        c.atom = n.atom;
        for (Map.Entry<String, Node> f : n.features.entrySet()) {
            c.features.put(f.getKey(), copy(f.getValue(), known));
        }
        return c;
    }

    private static Node copy(Node n) {
        return copy(n, new IdentityHashMap<>());
    }

    private static void all(Node n, Set<Node> seen) {
        n = rep(n);
        if (seen.add(n)) {
            n.features.values().forEach(c -> all(c, seen));
        }
    }

    private static int size(Node n) {
        Set<Node> seen = new HashSet<>();
        all(n, seen);
        return seen.stream().mapToInt(x -> x.features.size()).sum();
    }

    /** What comes of several structures, or null. */
    private static Node unified(List<Node> several) {
        Node top = copy(several.get(0));
        try {
            for (int i = 1; i < several.size(); i++) {
                unifyNodes(top, copy(several.get(i)));
            }
        } catch (Fails f) {
            return null;
        }
        return ringed(top) || size(top) > 40 ? null : copy(top);
    }

    private static void paths(Node n, String path, Map<String, Node> all) {
        n = rep(n);
        all.put(path, n);
        for (Map.Entry<String, Node> f : n.features.entrySet()) {
            paths(f.getValue(), path + "." + f.getKey(), all);
        }
    }

    private static boolean above(Node a, Node b) {
        Map<String, Node> pa = new HashMap<>();
        Map<String, Node> pb = new HashMap<>();
        paths(a, "", pa);
        paths(b, "", pb);
        for (String p : pa.keySet()) {
            if (!pb.containsKey(p)) {
                return false;
            }
            Node n = pa.get(p);
            if (n.atom != null && !n.atom.equals(pb.get(p).atom)) {
                return false;
            }
            for (String q : pa.keySet()) {
                if (pa.get(q) == n && n.atom == null && pb.containsKey(q)) {
                    Node x = pb.get(p);
                    Node y = pb.get(q);
                    if (x != y && (x.atom == null || !x.atom.equals(y.atom))) {
                        return false;
                    }
                }
            }
        }
        return true;
    }

    private static String written(Node top) {
        Set<Node> seen = new HashSet<>();
        all(top, seen);
        Map<Node, Integer> leads = new HashMap<>();
        for (Node n : seen) {
            for (Node c : n.features.values()) {
                leads.merge(rep(c), 1, Integer::sum);
            }
        }
        StringBuilder s = new StringBuilder();
        written(top, leads, new HashMap<>(), s);
        return s.toString();
    }

    private static void written(Node n, Map<Node, Integer> leads, Map<Node, Integer> tags, StringBuilder s) {
        n = rep(n);
        if (n.atom != null) {
            s.append(n.atom);
            return;
        }
        if (leads.getOrDefault(n, 0) > 1) {
            if (tags.containsKey(n)) {
                s.append('#').append(tags.get(n));
                return;
            }
            tags.put(n, tags.size() + 1);
            s.append('#').append(tags.get(n)).append('=');
        }
        s.append('{');
        String between = "";
        for (Map.Entry<String, Node> f : n.features.entrySet()) {
            s.append(between).append(f.getKey()).append(' ');
            written(f.getValue(), leads, tags, s);
            between = " ";
        }
        s.append('}');
    }

    // ---------------------------------------------------------------- rules for letters

    private Set<Integer> ends(Re re, List<Pair> row, Set<Integer> starts) {
        Set<Integer> out = new TreeSet<>();
        switch (re.kind) {
            case '#', 'a' -> {
                for (int s : starts) {
                    if (s < row.size() && fits(re, row.get(s))) {
                        out.add(s + 1);
                    }
                }
            }
            case 'c' -> {
                out.addAll(starts);
                for (Re p : re.parts) {
                    out = ends(p, row, out);
                }
            }
            case 'o' -> {
                for (Re p : re.parts) {
                    out.addAll(ends(p, row, starts));
                }
            }
            case '?' -> {
                out.addAll(starts);
                out.addAll(ends(re.parts.get(0), row, starts));
            }
            default -> {
                out.addAll(starts);
                while (out.addAll(ends(re.parts.get(0), row, out))) {
                    continue;
                }
            }
        }
        return out;
    }

    /** A null pair is the border. */
    private boolean fits(Re atom, Pair p) {
        if (p == null || atom.kind == '#') {
            return p == null && atom.kind == '#';
        }
        return fits(atom.deep.text, p.deep) && fits(atom.written.text, p.written);
    }

    private boolean fits(String side, char c) {
        if (side.equals("@")) {
            return true;
        }
        return side.length() == 1 ? side.charAt(0) == c : text.inSet(side, c);
    }

    private boolean holds(RuleTold r, List<Pair> pairs) {
        List<Pair> row = new ArrayList<>();
        row.add(null);
        row.addAll(pairs);
        row.add(null);
        for (int i = 1; i <= pairs.size(); i++) {
            boolean any = false;
            for (Context c : r.contexts) {
                boolean left = c.left == null;
                for (int s = 0; s <= i && !left; s++) {
                    left = ends(c.left, row.subList(0, i), Set.of(s)).contains(i);
                }
                boolean right = c.right == null || !ends(c.right, row, Set.of(i + 1)).isEmpty();
                any |= left && right;
            }
            boolean stands = pairs.get(i - 1).same(r.pair);
            boolean deep = pairs.get(i - 1).deep == r.pair.deep;
            if ((r.op.equals("=>") || r.op.equals("<=>")) && stands && !any) {
                return false;
            }
            if ((r.op.equals("<=") || r.op.equals("<=>")) && any && deep && !stands) {
                return false;
            }
            if (r.op.equals("/<=") && stands && any) {
                return false;
            }
        }
        return true;
    }

    private int firstBroken(List<Pair> pairs) {
        for (int r = 0; r < text.rules.size(); r++) {
            if (!holds(text.rules.get(r), pairs)) {
                return r;
            }
        }
        return 32;
    }

    private static String writtenSide(List<Pair> pairs) {
        StringBuilder s = new StringBuilder();
        pairs.forEach(p -> s.append(p.written == '0' ? "" : String.valueOf(p.written)));
        return s.toString();
    }

    // ---------------------------------------------------------------- words

    private record Candidate(List<Integer> way, List<Pair> pairs) { }

    private final class Found {
        final String word;
        final List<Candidate> candidates = new ArrayList<>();
        final List<List<Integer>> analyses = new ArrayList<>();
        boolean many;

        Found(String word) {
            this.word = word;
            ways("Root", new ArrayList<>());
            many = candidates.size() > 2000;
            if (many) {
                return;
            }
            for (Candidate c : candidates) {
                if (!analyses.contains(c.way) && firstBroken(c.pairs) == 32 && unified(shapes(c.way)) != null) {
                    analyses.add(c.way);
                }
            }
        }

        void ways(String lexicon, List<Integer> way) {
            for (int e = 0; e < text.entries.size() && candidates.size() <= 2000; e++) {
                EntryTold entry = text.entries.get(e);
                if (text.lexicons.get(entry.lexicon).name.equals(lexicon) && way.size() < 4) {
                    List<Integer> longer = new ArrayList<>(way);
                    longer.add(e);
                    if (entry.goal != null) {
                        ways(entry.goal, longer);
                    } else {
                        StringBuilder deep = new StringBuilder();
                        longer.forEach(x -> deep.append(text.entries.get(x).deep));
                        if (deep.length() <= 16) {
                            pairs(longer, deep.toString(), new ArrayList<>());
                        }
                    }
                }
            }
        }

        void pairs(List<Integer> way, String deep, List<Pair> pairs) {
            String written = writtenSide(pairs);
            if (!word.startsWith(written) || candidates.size() > 2000) {
                return;
            }
            if (pairs.size() == deep.length()) {
                if (written.equals(word)) {
                    candidates.add(new Candidate(way, new ArrayList<>(pairs)));
                }
                return;
            }
            for (Pair p : text.feasible) {
                if (p.deep == deep.charAt(pairs.size())) {
                    pairs.add(p);
                    pairs(way, deep, pairs);
                    pairs.remove(pairs.size() - 1);
                }
            }
        }
    }

    private List<Node> shapes(List<Integer> way) {
        List<Node> shapes = new ArrayList<>();
        way.forEach(e -> shapes.add(text.entries.get(e).shape));
        return shapes;
    }

    // ---------------------------------------------------------------- sentences

    private static final class Tree {
        int code;
        Tree one;
        Tree two;
        int from;
        int to;
        Node shape;
        int cost;

        int nodes() {
            return 1 + (one == null ? 0 : one.nodes()) + (two == null ? 0 : two.nodes());
        }

        void list(List<Tree> all) {
            all.add(this);
            if (one != null) {
                one.list(all);
            }
            if (two != null) {
                two.list(all);
            }
        }

        boolean hasChainOf(int g) {
            return one != null && two == null && (code == g || one.hasChainOf(g));
        }
    }

    private static final Comparator<Tree> ORDER = new Comparator<>() {
        @Override
        public int compare(Tree a, Tree b) {
            boolean wordA = a.one == null;
            boolean wordB = b.one == null;
            if (wordA != wordB) {
                return wordA ? -1 : 1;
            }
            if (a.code != b.code || wordA) {
                return Integer.compare(a.code, b.code);
            }
            if (a.two != null && a.one.to != b.one.to) {
                return Integer.compare(a.one.to, b.one.to);
            }
            int first = compare(a.one, b.one);
            return first != 0 || a.two == null ? first : compare(a.two, b.two);
        }
    };

    private Node down(Node n, List<String> names) {
        for (String name : names) {
            n = rep(n);
            if (n.atom != null) {
                throw new Fails();
            }
            n = n.features.computeIfAbsent(name, k -> new Node());
        }
        return n;
    }

    private static Node atomNode(String s) {
        Node n = new Node();
        n.atom = s;
        return n;
    }

    private Node applied(GrammarTold g, Node first, Node second) {
        Node[] x = {new Node(), copy(first), second == null ? null : copy(second)};
        try {
            unifyNodes(down(x[0], List.of("cat")), atomNode(g.head));
            unifyNodes(down(x[1], List.of("cat")), atomNode(g.first));
            if (second != null) {
                unifyNodes(down(x[2], List.of("cat")), atomNode(g.second));
            }
            for (Equation q : g.equations) {
                Node left = down(x[q.left.root], q.left.names);
                Node right = q.right.root < 0 ? atomNode(q.right.atom) : down(x[q.right.root], q.right.names);
                unifyNodes(left, right);
            }
        } catch (Fails f) {
            return null;
        }
        if (ringed(x[0]) || ringed(x[1]) || second != null && ringed(x[2]) || size(x[0]) > 40) {
            return null;
        }
        return copy(x[0]);
    }

    /** The trees over words i to j, or null: many. */
    private List<Tree> trees(List<String> words, int i, int j, Map<String, List<Tree>> known) {
        String key = i + " " + j;
        if (!known.containsKey(key)) {
            known.put(key, findTrees(words, i, j, known));
        }
        return known.get(key);
    }

    private List<Tree> findTrees(List<String> words, int i, int j, Map<String, List<Tree>> known) {
        List<Tree> all = new ArrayList<>();
        if (i == j) {
            Found f = new Found(words.get(i));
            if (f.many) {
                return null;
            }
            for (int k = 0; k < f.analyses.size(); k++) {
                Tree t = new Tree();
                t.code = 32 + k;
                t.from = i;
                t.to = i;
                t.shape = unified(shapes(f.analyses.get(k)));
                for (int e : f.analyses.get(k)) {
                    t.cost += text.entries.get(e).cost;
                }
                all.add(t);
            }
        } else {
            int pairs = 0;
            for (int m = i; m < j; m++) {
                List<Tree> left = trees(words, i, m, known);
                List<Tree> right = trees(words, m + 1, j, known);
                if (left == null || right == null) {
                    return null;
                }
                pairs += left.size() * right.size();
            }
            if (pairs > 400) {
                return null;
            }
            for (int m = i; m < j; m++) {
                for (Tree a : trees(words, i, m, known)) {
                    for (Tree b : trees(words, m + 1, j, known)) {
                        for (int g = 0; g < text.grammar.size(); g++) {
                            if (text.grammar.get(g).second != null) {
                                add(all, g, a, b);
                            }
                        }
                    }
                }
            }
        }
        for (int k = 0; k < all.size() && all.size() <= 30; k++) {
            for (int g = 0; g < text.grammar.size() && all.size() <= 30; g++) {
                if (text.grammar.get(g).second == null && !all.get(k).hasChainOf(g)) {
                    add(all, g, all.get(k), null);
                }
            }
        }
        if (all.size() > 30) {
            return null;
        }
        all.sort(ORDER);
        return all;
    }

    private void add(List<Tree> all, int g, Tree a, Tree b) {
        Node shape = applied(text.grammar.get(g), a.shape, b == null ? null : b.shape);
        if (shape != null) {
            Tree t = new Tree();
            t.code = g;
            t.one = a;
            t.two = b;
            t.from = a.from;
            t.to = b == null ? a.to : b.to;
            t.shape = shape;
            t.cost = text.grammar.get(g).cost + a.cost + (b == null ? 0 : b.cost);
            all.add(t);
        }
    }

    // ---------------------------------------------------------------- the calls

    private final StringBuilder tape = new StringBuilder();
    private TextTold text = new TextTold();
    private final Node[] desk = new Node[8];
    private String lastWritten = "";
    private List<Pair> held;
    private List<String> made = List.of();
    private Found latest;
    private List<String> neighbours = List.of();
    private final List<String> sentence = new ArrayList<>();
    private final List<String> kept = new ArrayList<>();
    private int workedEver;
    private int workedLately;
    private List<Tree> readings = List.of();

    Oracle() {
        for (int i = 0; i < 8; i++) {
            desk[i] = new Node();
        }
    }

    int feed(int a, int b, int c, int d, int e) {
        if (tape.length() + 20 > 5000) {
            return NONE;
        }
        for (int v : new int[] {a, b, c, d, e}) {
            for (int s = 24; s >= 0; s -= 8) {
                tape.append((char) (v >>> s & 255));
            }
        }
        return tape.length();
    }

    int back(int n) {
        if (n < 0 || n > tape.length()) {
            return NONE;
        }
        tape.setLength(tape.length() - n);
        return tape.length();
    }

    private String takeTape() {
        String s = tape.toString();
        tape.setLength(0);
        return s;
    }

    int read() {
        String s = takeTape();
        TextTold t;
        try {
            t = new Parser(s).text();
        } catch (Fault f) {
            return f.code;
        }
        Later later = new Later();
        later.check(t);
        if (later.least != Integer.MAX_VALUE) {
            return later.least;
        }
        for (EntryTold e : t.entries) {
            e.shape = build(e.struct);
            if (ringed(e.shape)) {
                later.fault(6, e.struct.place);
            }
        }
        if (!t.isLexicon("Root")) {
            later.fault(7, s.length());
        }
        if (later.least != Integer.MAX_VALUE) {
            return later.least;
        }
        for (Side l : t.letters) {
            char c = l.text.charAt(0);
            if (Character.isLowerCase(c)) {
                t.feasible.add(new Pair(c, c, 0, 0));
            }
        }
        t.feasible.addAll(t.pairs);
        text = t;
        held = null;
        made = List.of();
        latest = null;
        neighbours = List.of();
        sentence.clear();
        kept.clear();
        workedEver = 0;
        workedLately = 0;
        readings = List.of();
        return 0;
    }

    int count(int what) {
        return switch (what) {
            case 0 -> text.letters.size();
            case 1 -> text.feasible.size();
            case 2 -> text.sets.size();
            case 3 -> text.rules.size();
            case 4 -> text.lexicons.size();
            case 5 -> text.entries.size();
            case 6 -> text.grammar.size();
            case 7 -> text.starts.size();
            case 8 -> text.rules.stream().mapToInt(r -> r.atoms).sum();
            case 9 -> tape.length();
            case 10 -> sentence.size();
            case 11 -> workedEver;
            case 12 -> kept.size();
            case 13 -> workedLately;
            default -> NONE;
        };
    }

    int holds() {
        String s = takeTape();
        if (s.length() % 2 != 0 || s.length() > 32) {
            return NONE;
        }
        List<Pair> row = new ArrayList<>();
        for (int i = 0; i < s.length(); i += 2) {
            Pair told = new Pair(s.charAt(i), s.charAt(i + 1), 0, 0);
            if (text.feasible.stream().noneMatch(p -> p.same(told))) {
                return NONE;
            }
            row.add(told);
        }
        held = row;
        int n = 0;
        for (int r = 0; r < text.rules.size(); r++) {
            n += rule(r);
        }
        return n;
    }

    int rule(int r) {
        if (held == null || r < 0 || r >= text.rules.size()) {
            return NONE;
        }
        return holds(text.rules.get(r), held) ? 1 : 0;
    }

    int pairCount() {
        return text.feasible.size();
    }

    long differ(int r, int s) {
        int n = text.rules.size();
        if (r < 0 || s < 0 || r >= n || s >= n) {
            return NONE;
        }
        for (int size = 0; size <= 4; size++) {
            long found = differ(r, s, size, new ArrayList<>(), size + 1);
            if (found != 0) {
                return found;
            }
        }
        return 0;
    }

    private long differ(int r, int s, int size, List<Pair> row, long code) {
        if (row.size() == size) {
            return holds(text.rules.get(r), row) && !holds(text.rules.get(s), row) ? code : 0;
        }
        for (int p = 0; p < text.feasible.size(); p++) {
            row.add(text.feasible.get(p));
            long found = differ(r, s, size, row, code * 32 + p);
            row.remove(row.size() - 1);
            if (found != 0) {
                return found;
            }
        }
        return 0;
    }

    int forms() {
        String s = takeTape();
        if (s.isEmpty() || s.length() > 8 || s.chars().anyMatch(c -> !text.isLetter((char) c))) {
            return NONE;
        }
        TreeSet<String> all = new TreeSet<>();
        forms(s, new ArrayList<>(), all);
        made = all.size() > 100 ? List.of() : new ArrayList<>(all);
        return all.size() > 100 ? MANY : all.size();
    }

    private void forms(String deep, List<Pair> row, Set<String> all) {
        if (row.size() == deep.length()) {
            if (firstBroken(row) == 32) {
                all.add(writtenSide(row));
            }
            return;
        }
        for (Pair p : text.feasible) {
            if (p.deep == deep.charAt(row.size()) && all.size() <= 100) {
                row.add(p);
                forms(deep, row, all);
                row.remove(row.size() - 1);
            }
        }
    }

    private static int byteOf(List<String> list, int k, int i) {
        if (k < 0 || k >= list.size() || i < 0) {
            return NONE;
        }
        return i < list.get(k).length() ? list.get(k).charAt(i) : 0;
    }

    int form(int k, int i) {
        return byteOf(made, k, i);
    }

    private boolean isWord(String s) {
        return !s.isEmpty() && s.length() <= 16
                && s.chars().allMatch(c -> c >= 'a' && c <= 'z' && text.isLetter((char) c));
    }

    int analyse() {
        String s = takeTape();
        if (!isWord(s)) {
            return NONE;
        }
        latest = new Found(s);
        return latest.many ? MANY : latest.analyses.size();
    }

    int way(int k, int i) {
        if (latest == null || k < 0 || k >= latest.analyses.size() || i < 0 || i >= latest.analyses.get(k).size()) {
            return NONE;
        }
        return latest.analyses.get(k).get(i);
    }

    int candidate(int c, int what) {
        if (latest == null || latest.many || c < 0 || c >= latest.candidates.size()) {
            return NONE;
        }
        Candidate found = latest.candidates.get(c);
        if (what == 0) {
            return firstBroken(found.pairs);
        }
        if (what >= 1 && what <= 4) {
            return what <= found.way.size() ? found.way.get(what - 1) : NONE;
        }
        return what >= 5 && what - 5 < found.pairs.size() ? text.feasible.indexOf(found.pairs.get(what - 5)) : NONE;
    }

    int candidates() {
        return latest == null ? 0 : latest.many ? MANY : latest.candidates.size();
    }

    int near() {
        String s = takeTape();
        if (!isWord(s) || s.length() > 8) {
            return NONE;
        }
        TreeSet<String> all = new TreeSet<>();
        for (int i = 0; i <= s.length(); i++) {
            for (int j = i; j <= Math.min(i + 1, s.length()); j++) {
                all.add(s.substring(0, i) + s.substring(j));
                for (Side l : text.letters) {
                    all.add(s.substring(0, i) + l.text + s.substring(j));
                }
            }
        }
        all.remove(s);
        neighbours = new ArrayList<>();
        for (String w : all) {
            if (isWord(w) && w.length() <= 8) {
                Found f = new Found(w);
                if (f.many || !f.analyses.isEmpty()) {
                    neighbours.add(w);
                }
            }
        }
        return neighbours.size();
    }

    int nearby(int k, int i) {
        return byteOf(neighbours, k, i);
    }

    private static boolean slot(int s) {
        return s >= 0 && s < 8;
    }

    int lay(int s) {
        if (!slot(s)) {
            return NONE;
        }
        StructTold told;
        try {
            Parser p = new Parser(takeTape());
            told = p.struct(0, new int[1]);
            if (!p.now().kind.equals("end")) {
                throw p.syntax();
            }
        } catch (Fault f) {
            return f.code;
        }
        Later later = new Later();
        later.struct(told, new HashSet<>());
        if (later.least != Integer.MAX_VALUE) {
            return later.least;
        }
        Node n = build(told);
        if (ringed(n)) {
            return 6 + 16 * told.place;
        }
        desk[s] = n;
        return 0;
    }

    int unify(int a, int b, int c) {
        if (!slot(a) || !slot(b) || !slot(c)) {
            return NONE;
        }
        Node n = unified(List.of(desk[a], desk[b]));
        if (n == null) {
            return NONE;
        }
        desk[c] = n;
        return size(n);
    }

    int above(int a, int b) {
        if (!slot(a) || !slot(b)) {
            return NONE;
        }
        return above(desk[a], desk[b]) ? 1 : 0;
    }

    int write(int what, int k) {
        Node n = null;
        if (what == 0 && slot(k)) {
            n = desk[k];
        } else if (what == 1 && way(k, 0) != NONE) {
            n = unified(shapes(latest.analyses.get(k)));
        } else if (what == 2 && k >= 0 && k < readings.size()) {
            n = readings.get(k).shape;
        }
        if (n == null) {
            return NONE;
        }
        lastWritten = written(n);
        return lastWritten.length();
    }

    int octet(int i) {
        return i < 0 || i >= lastWritten.length() ? NONE : lastWritten.charAt(i);
    }

    int word(int i) {
        String s = takeTape();
        if (!isWord(s) || i < 0 || i > sentence.size() || i > 7) {
            return NONE;
        }
        if (i == sentence.size()) {
            sentence.add(s);
        } else {
            sentence.set(i, s);
        }
        return sentence.size();
    }

    int insert(int i) {
        String s = takeTape();
        if (!isWord(s) || i < 0 || i > sentence.size() || sentence.size() == 8) {
            return NONE;
        }
        sentence.add(i, s);
        return sentence.size();
    }

    int remove(int i) {
        if (i < 0 || i >= sentence.size()) {
            return NONE;
        }
        sentence.remove(i);
        return sentence.size();
    }

    int parse() {
        if (sentence.isEmpty() || text.starts.isEmpty()) {
            return NONE;
        }
        int n = sentence.size();
        workedLately = 0;
        for (int size = 1; size <= n; size++) {
            for (int i = 0; i + size <= n; i++) {
                String key = String.join(" ", sentence.subList(i, i + size));
                if (!kept.remove(key)) {
                    workedLately++;
                    workedEver++;
                }
                kept.add(key);
                if (kept.size() > 40) {
                    kept.remove(0);
                }
            }
        }
        readings = new ArrayList<>();
        List<Tree> all = trees(sentence, 0, n - 1, new HashMap<>());
        if (all == null) {
            return MANY;
        }
        for (Tree t : all) {
            Node cat = t.shape.features.get("cat");
            if (cat != null && text.starts.get(0).name.equals(rep(cat).atom)) {
                readings.add(t);
            }
        }
        return readings.size();
    }

    int reading(int k, int what) {
        if (k < 0 || k >= readings.size()) {
            return NONE;
        }
        Tree t = readings.get(k);
        int best = 0;
        for (int r = 1; r < readings.size(); r++) {
            if (readings.get(r).cost < readings.get(best).cost) {
                best = r;
            }
        }
        return switch (what) {
            case 0 -> t.cost;
            case 1 -> t.nodes();
            case 2 -> size(t.shape);
            case 3 -> k == best ? 1 : 0;
            default -> NONE;
        };
    }

    int node(int k, int i, int what) {
        if (k < 0 || k >= readings.size()) {
            return NONE;
        }
        List<Tree> all = new ArrayList<>();
        readings.get(k).list(all);
        if (i < 0 || i >= all.size()) {
            return NONE;
        }
        Tree t = all.get(i);
        return switch (what) {
            case 0 -> t.code;
            case 1 -> t.from;
            case 2 -> t.to;
            default -> NONE;
        };
    }
}
