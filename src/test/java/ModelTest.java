import java.util.ArrayList;
import java.util.Arrays;
import java.util.HashMap;
import java.util.LinkedHashSet;
import java.util.List;
import java.util.Map;
import java.util.Set;
import java.util.TreeSet;

/**
 * Long runs of calls, the same in each run of the test, on the class and on a slow model that says
 * the document's sentences again with the Java library; every answer must be the model's.
 */
public final class ModelTest {
    private static final int RUNS = 3000;
    private static final int CALLS = 512;
    private static int wrong = 0;

    public static void main(String[] args) {
        for (int run = 0; run < RUNS && wrong < 10; run++) {
            new Run(run).go();
        }
        System.out.println(wrong == 0 ? "all answers are the model's" : "answers are not the model's");
        if (wrong != 0) {
            System.exit(1);
        }
    }

    /** A run of calls on one object and its model. */
    private static final class Run {
        private static final String[] LETTERS = {"ab", "abc", "aab \n", "aB1 -\n", "abcdefgh\n", "]^-[\\\n"};
        private final int number;
        private final String letters;
        private final TrigramLines real = new TrigramLines();
        private final Model model = new Model();
        private final StringBuilder history = new StringBuilder();
        private long seed;
        private int calls = 0;

        Run(int number) {
            this.number = number;
            seed = number * 7919L + 17;
            letters = LETTERS[below(LETTERS.length)];
        }

        private int below(int bound) {
            seed = seed * 6364136223846793005L + 1442695040888963407L;
            return (int) ((seed >>> 33) % bound);
        }

        private boolean is(int percent) {
            return below(100) < percent;
        }

        private void due(String call, long got, long want) {
            calls++;
            history.append(call).append(' ');
            if (got != want && wrong < 10 && calls <= CALLS) {
                wrong++;
                System.out.println("run " + number + ": " + history + "answered " + got + ", due is " + want);
            }
        }

        void go() {
            while (calls < CALLS) {
                int kind = below(100);
                if (kind < 25) {
                    writeText();
                } else if (kind < 55) {
                    askPattern();
                } else if (kind < 75) {
                    askShards();
                } else {
                    askOther();
                }
            }
        }

        private void write(char c) {
            due("write(" + (int) c + ")", real.write(c) ? 1 : 0, model.write(c) ? 1 : 0);
        }

        private void type(char c) {
            due("type(" + (int) c + ")", real.type(c) ? 1 : 0, model.type(c) ? 1 : 0);
        }

        private void put(int name) {
            due("put(" + name + ")", real.put(name), model.put(name));
        }

        private void writeText() {
            int count = below(is(10) ? 45 : 9);
            for (int k = 0; k < count; k++) {
                write(is(2) ? (char) below(140) : letters.charAt(below(letters.length())));
            }
            put(is(3) ? below(14) - 2 : below(10));
        }

        private void clear() {
            while (model.pattern.length() > 0) {
                due("back()", real.back(), model.back());
            }
        }

        private void askPattern() {
            if (is(70)) {
                clear();
                String next = is(80) ? branches(3) : noise();
                for (int k = 0; k < next.length() && k < 26; k++) {
                    type(next.charAt(k));
                }
            } else if (is(50)) {
                due("back()", real.back(), model.back());
            } else {
                type(is(10) ? (char) below(140) : noise().charAt(0));
            }
            due("fault()", real.fault(), model.fault());
            due("size()", real.size(), model.size());
            due("strings()", real.strings(), model.strings());
            askSearch();
        }

        private void askSearch() {
            due("search()", real.search(), model.search());
            due("possible()", real.possible(), model.possible);
            for (int k = -1; k <= model.hits.size(); k++) {
                due("hit(" + k + ")", real.hit(k), model.hit(k));
            }
        }

        private void askShards() {
            int count = model.sealed.size();
            due("shards()", real.shards(), count);
            int k = below(count + 4) - 2;
            int what = below(5) - 1;
            due("shard(" + k + ", " + what + ")", real.shard(k, what), model.shard(k, what));
            due("left()", real.left(), model.left);
            int a = code();
            int b = code();
            int c = code();
            due("postings(" + a + ", " + b + ", " + c + ")", real.postings(a, b, c), model.postings(a, b, c));
        }

        private int code() {
            return is(5) ? below(140) - 5 : letters.charAt(below(letters.length()));
        }

        private void askOther() {
            int name = is(10) ? below(14) - 2 : below(10);
            int kind = below(10);
            if (kind < 3) {
                due("drop(" + name + ")", real.drop(name) ? 1 : 0, model.drop(name) ? 1 : 0);
            } else if (kind < 5) {
                due("length(" + name + ")", real.length(name), model.length(name));
            } else if (kind < 6) {
                due("compact()", real.compact(), model.compact());
            } else if (kind < 8) {
                put(name);
            } else {
                askSearch();
            }
        }

        private String branches(int depth) {
            StringBuilder text = new StringBuilder(branch(depth));
            while (is(25)) {
                text.append('|').append(branch(depth));
            }
            return text.toString();
        }

        private String branch(int depth) {
            StringBuilder text = new StringBuilder();
            do {
                text.append(piece(depth));
            } while (is(60));
            return text.toString();
        }

        private String piece(int depth) {
            String text;
            int kind = below(100);
            if (kind < 18 && depth > 0) {
                text = "(" + branches(depth - 1) + ")";
            } else if (kind < 30) {
                text = set();
            } else if (kind < 36) {
                return is(50) ? "^" : "$";
            } else if (kind < 42) {
                text = ".";
            } else if (kind < 46) {
                text = "\\" + "^.[$()|*+?{\\".charAt(below(12));
            } else {
                char c = letters.charAt(below(letters.length()));
                text = String.valueOf(c < 32 ? 'a' : c);
            }
            while (is(22)) {
                text += repeat();
            }
            return text;
        }

        private String repeat() {
            int m = below(is(80) ? 3 : 10);
            int n = m + below(is(80) ? 2 : 3);
            String[] forms = {"*", "+", "?", "{" + m + "}", "{" + m + ",}", "{" + m + "," + n + "}"};
            return forms[below(forms.length)];
        }

        private String set() {
            String[] items = {"a", "b", "c", "a-c", "]", "^", "-", "[:alpha:]", "[:digit:]", "[:lower:]",
                "[:upper:]", "[", "0-9", " -~", "b-a", "[.", "[=", "[:", "\\", "A-[", "1", "aa", " -`", "e-~"};
            StringBuilder text = new StringBuilder(is(25) ? "[^" : "[");
            do {
                text.append(items[below(is(60) ? 4 : items.length)]);
            } while (is(45));
            return text.append(is(97) ? "]" : "").toString();
        }

        private String noise() {
            String mix = "ab(|)*+?{}0123,[]^-:.=$\\";
            StringBuilder text = new StringBuilder();
            do {
                text.append(mix.charAt(below(mix.length())));
            } while (is(85));
            return text.toString();
        }
    }

    private static final class Version {
        String text;
        boolean live = true;

        boolean has(String trigram) {
            return text.contains(trigram);
        }

        boolean allows(Set<String> list) {
            for (String s : list) {
                boolean all = true;
                for (int k = 0; k + 3 <= s.length(); k++) {
                    all &= has(s.substring(k, k + 3));
                }
                if (all) {
                    return true;
                }
            }
            return false;
        }
    }

    private static final class Shard {
        int level;
        List<Version> versions = new ArrayList<>();
    }

    private static final class Model {
        String draft = "";
        String pattern = "";
        Version[] names = new Version[10];
        int count = 0;
        List<Shard> sealed = new ArrayList<>();
        Shard open = new Shard();
        int left = 0;
        int possible = 0;
        List<Integer> hits = new ArrayList<>();

        boolean write(char c) {
            if (c != 10 && (c < 32 || c > 126) || draft.length() == 40) {
                return false;
            }
            draft += c;
            return true;
        }

        int put(int name) {
            if (name < 0 || name > 9) {
                return -1;
            }
            drop(name);
            Version version = new Version();
            version.text = draft;
            draft = "";
            names[name] = version;
            open.versions.add(version);
            if (open.versions.size() == 3) {
                seal();
                while (sealed.size() > 1
                        && sealed.get(sealed.size() - 1).level == sealed.get(sealed.size() - 2).level) {
                    merge();
                }
            }
            return ++count;
        }

        void seal() {
            sealed.add(open);
            open = new Shard();
        }

        void merge() {
            Shard a = sealed.remove(sealed.size() - 1);
            Shard b = sealed.remove(sealed.size() - 1);
            Shard both = new Shard();
            both.level = 1 + Math.max(a.level, b.level);
            both.versions.addAll(b.versions);
            both.versions.addAll(a.versions);
            int before = both.versions.size();
            both.versions.removeIf(v -> !v.live);
            left += before - both.versions.size();
            if (!both.versions.isEmpty()) {
                sealed.add(both);
            }
        }

        boolean drop(int name) {
            if (name < 0 || name > 9 || names[name] == null) {
                return false;
            }
            names[name].live = false;
            names[name] = null;
            return true;
        }

        int length(int name) {
            return name < 0 || name > 9 || names[name] == null ? -1 : names[name].text.length();
        }

        boolean type(char c) {
            if (c < 32 || c > 126 || pattern.length() == 24) {
                return false;
            }
            pattern += c;
            return true;
        }

        int back() {
            pattern = pattern.substring(0, Math.max(0, pattern.length() - 1));
            return pattern.length();
        }

        int fault() {
            Parser parser = new Parser(pattern);
            parser.parse();
            return parser.fault;
        }

        int size() {
            return fault() != 0 ? -1 : new Parser(pattern).parse().size();
        }

        int strings() {
            if (fault() != 0) {
                return -2;
            }
            Set<String> strings = new Parser(pattern).parse().strings();
            return strings == null ? -1 : strings.size();
        }

        int search() {
            if (fault() != 0) {
                return -fault();
            }
            Node whole = new Parser(pattern).parse();
            hits.clear();
            possible = 0;
            for (int name = 0; name < 10; name++) {
                if (names[name] != null && whole.possible(names[name])) {
                    possible += 1 << name;
                    String[] lines = names[name].text.split("\n", -1);
                    for (int line = 0; line < lines.length; line++) {
                        addHit(whole, name * 16777216 + line * 65536, lines[line]);
                    }
                }
            }
            return hits.size();
        }

        void addHit(Node whole, int place, String line) {
            Map<Node, Map<Integer, TreeSet<Integer>>> memo = new HashMap<>();
            for (int i = 0; i <= line.length(); i++) {
                TreeSet<Integer> ends = whole.ends(line, i, memo);
                if (!ends.isEmpty()) {
                    hits.add(place + i * 256 + ends.last());
                    return;
                }
            }
        }

        int hit(int k) {
            return k < 0 || k >= hits.size() ? -1 : hits.get(k);
        }

        int shard(int k, int what) {
            if (k < -1 || k >= sealed.size()) {
                return -1;
            }
            Shard shard = k == -1 ? open : sealed.get(k);
            int live = 0;
            for (Version v : shard.versions) {
                live += v.live ? 1 : 0;
            }
            return what == 0 ? shard.level : what == 1 ? shard.versions.size() : what == 2 ? live : -1;
        }

        int postings(int a, int b, int c) {
            int sum = 0;
            List<Shard> all = new ArrayList<>(sealed);
            all.add(open);
            for (Shard shard : all) {
                for (Version v : shard.versions) {
                    boolean found = false;
                    for (int k = 0; k + 3 <= v.text.length(); k++) {
                        found |= v.text.charAt(k) == a && v.text.charAt(k + 1) == b && v.text.charAt(k + 2) == c;
                    }
                    sum += found ? 1 : 0;
                }
            }
            return sum;
        }

        int compact() {
            if (!open.versions.isEmpty()) {
                seal();
            }
            int merges = 0;
            while (sealed.size() > 1) {
                merge();
                merges++;
            }
            return merges;
        }
    }

    /** kind: s a set, a an anchor, b a branch, g a group or pattern, r a repetition. */
    private static final class Node {
        char kind;
        boolean[] set = new boolean[127];
        char anchor;
        List<Node> parts = new ArrayList<>();
        int m;
        /** -1 when it has no end. */
        int n;

        static Node of(char kind, Node... parts) {
            Node node = new Node();
            node.kind = kind;
            node.parts.addAll(Arrays.asList(parts));
            return node;
        }

        int size() {
            int sum = 0;
            for (Node part : parts) {
                sum += part.size();
            }
            if (kind == 's' || kind == 'a') {
                return 1;
            } else if (kind == 'b') {
                return sum;
            } else if (kind == 'g') {
                return sum + parts.size() - 1;
            }
            return n >= 0 ? n * (sum + 1) : m > 0 ? m * (sum + 1) : sum + 1;
        }

        TreeSet<Integer> ends(String line, int i, Map<Node, Map<Integer, TreeSet<Integer>>> memo) {
            Map<Integer, TreeSet<Integer>> mine = memo.computeIfAbsent(this, x -> new HashMap<>());
            if (!mine.containsKey(i)) {
                mine.put(i, findEnds(line, i, memo));
            }
            return mine.get(i);
        }

        private TreeSet<Integer> findEnds(String line, int i, Map<Node, Map<Integer, TreeSet<Integer>>> memo) {
            TreeSet<Integer> ends = new TreeSet<>();
            if (kind == 's') {
                if (i < line.length() && set[line.charAt(i)]) {
                    ends.add(i + 1);
                }
            } else if (kind == 'a') {
                if (i == (anchor == '^' ? 0 : line.length())) {
                    ends.add(i);
                }
            } else if (kind == 'g') {
                for (Node part : parts) {
                    ends.addAll(part.ends(line, i, memo));
                }
            } else if (kind == 'b') {
                ends.add(i);
                for (Node part : parts) {
                    ends = step(part, ends, line, memo);
                }
            } else {
                TreeSet<Integer> now = new TreeSet<>(List.of(i));
                int last = n >= 0 ? n : m + 45;
                for (int k = 0; k <= last; k++) {
                    if (k >= m) {
                        ends.addAll(now);
                    }
                    now = step(parts.get(0), now, line, memo);
                }
            }
            return ends;
        }

        private static TreeSet<Integer> step(Node part, TreeSet<Integer> from, String line,
                Map<Node, Map<Integer, TreeSet<Integer>>> memo) {
            TreeSet<Integer> to = new TreeSet<>();
            for (int place : from) {
                to.addAll(part.ends(line, place, memo));
            }
            return to;
        }

        static boolean fits(Set<String> list) {
            for (String s : list) {
                if (s.length() > 12) {
                    return false;
                }
            }
            return list.size() <= 4;
        }

        static Set<String> join(Set<String> first, Set<String> second) {
            Set<String> all = new LinkedHashSet<>();
            for (String a : first) {
                for (String b : second) {
                    all.add(a + b);
                }
            }
            return all;
        }

        /** A repetition's branch of m pieces. */
        private Node asBranch() {
            Node branch = of('b');
            for (int k = 0; k < m; k++) {
                branch.parts.add(parts.get(0));
            }
            return branch;
        }

        /** Null when UNKNOWN. */
        Set<String> strings() {
            Set<String> list = new LinkedHashSet<>();
            if (kind == 's') {
                for (char c = 32; c < 127; c++) {
                    if (set[c]) {
                        list.add(String.valueOf(c));
                    }
                }
                return list.size() <= 4 ? list : null;
            } else if (kind == 'a') {
                return Set.of("");
            } else if (kind == 'g') {
                for (Node part : parts) {
                    Set<String> more = part.strings();
                    if (more == null) {
                        return null;
                    }
                    list.addAll(more);
                }
                return fits(list) ? list : null;
            } else if (kind == 'r') {
                return m == n ? asBranch().strings() : null;
            }
            list.add("");
            for (Node part : parts) {
                Set<String> more = part.strings();
                if (more == null || !fits(join(list, more))) {
                    return null;
                }
                list = join(list, more);
            }
            return list;
        }

        boolean possible(Version text) {
            Set<String> strings = strings();
            if (strings != null) {
                return text.allows(strings);
            } else if (kind == 's') {
                return true;
            } else if (kind == 'g') {
                return parts.stream().anyMatch(part -> part.possible(text));
            } else if (kind == 'r') {
                return m == 0 || asBranch().possible(text);
            }
            Set<String> c = Set.of("");
            boolean all = true;
            for (Node part : parts) {
                Set<String> more = part.strings();
                if (more != null && fits(join(c, more))) {
                    c = join(c, more);
                } else if (more != null) {
                    all &= text.allows(c);
                    c = more;
                } else {
                    all &= text.allows(c) && part.possible(text);
                    c = Set.of("");
                }
            }
            return all && text.allows(c);
        }
    }

    private static final class Stop extends RuntimeException {
        private static final long serialVersionUID = 1L;
        final int fault;

        Stop(int fault) {
            this.fault = fault;
        }
    }

    /** Goes down from branches to pieces and stops at the first fault. */
    private static final class Parser {
        private final String text;
        private int at = 0;
        int fault = 0;

        Parser(String text) {
            this.text = text;
        }

        Node parse() {
            try {
                Node whole = branches(0);
                if (whole.size() > 60) {
                    throw new Stop(9);
                }
                return whole;
            } catch (Stop stop) {
                fault = stop.fault;
                return null;
            }
        }

        private boolean sees(String s) {
            return text.startsWith(s, at);
        }

        private boolean takes(String s) {
            boolean seen = sees(s);
            at += seen ? s.length() : 0;
            return seen;
        }

        private Node branches(int depth) {
            Node group = Node.of('g');
            while (true) {
                Node branch = Node.of('b');
                while (at < text.length() && !sees("|") && !sees(")")) {
                    piece(branch, depth);
                }
                if (at == text.length() && depth > 0 || sees(")") && depth == 0) {
                    throw new Stop(2);
                }
                if (branch.parts.isEmpty()) {
                    throw new Stop(1);
                }
                group.parts.add(branch);
                if (!takes("|")) {
                    return group;
                }
            }
        }

        private void piece(Node branch, int depth) {
            char c = text.charAt(at++);
            if ("*+?{".indexOf(c) >= 0) {
                repetition(branch, c);
            } else if (c == '(') {
                if (depth == 6) {
                    throw new Stop(8);
                }
                branch.parts.add(branches(depth + 1));
                at++;
            } else if (c == '[') {
                branch.parts.add(set());
            } else if (c == '^' || c == '$') {
                Node anchor = Node.of('a');
                anchor.anchor = c;
                branch.parts.add(anchor);
            } else {
                Node set = Node.of('s');
                if (c == '.') {
                    Arrays.fill(set.set, 32, 127, true);
                } else if (c == '\\') {
                    if (at == text.length() || "^.[$()|*+?{\\".indexOf(text.charAt(at)) < 0) {
                        throw new Stop(7);
                    }
                    set.set[text.charAt(at++)] = true;
                } else {
                    set.set[c] = true;
                }
                branch.parts.add(set);
            }
        }

        private void repetition(Node branch, char c) {
            int last = branch.parts.size() - 1;
            if (last < 0 || branch.parts.get(last).kind == 'a') {
                throw new Stop(3);
            }
            Node node = Node.of('r', branch.parts.get(last));
            node.m = c == '+' ? 1 : 0;
            node.n = c == '?' ? 1 : -1;
            if (c == '{') {
                String rest = text.substring(at);
                if (!rest.matches("(?s)[0-9](,[0-9]?)?\\}.*")) {
                    throw new Stop(4);
                }
                String inside = rest.substring(0, rest.indexOf('}'));
                at += inside.length() + 1;
                node.m = inside.charAt(0) - '0';
                node.n = inside.length() == 1 ? node.m : inside.length() == 2 ? -1 : inside.charAt(2) - '0';
                if (inside.length() == 3 && node.n < node.m) {
                    throw new Stop(4);
                }
            }
            branch.parts.set(last, node);
        }

        private Node set() {
            Node set = Node.of('s');
            boolean others = takes("^");
            boolean first = true;
            while (first || !sees("]")) {
                if (at >= text.length()) {
                    throw new Stop(5);
                }
                item(set.set);
                first = false;
            }
            at++;
            for (int c = 32; c < 127 && others; c++) {
                set.set[c] = !set.set[c];
            }
            return set;
        }

        private void item(boolean[] set) {
            if (sees("[:")) {
                if (takes("[:alpha:]")) {
                    Arrays.fill(set, 'a', 'z' + 1, true);
                    Arrays.fill(set, 'A', 'Z' + 1, true);
                } else if (takes("[:digit:]")) {
                    Arrays.fill(set, '0', '9' + 1, true);
                } else if (takes("[:lower:]")) {
                    Arrays.fill(set, 'a', 'z' + 1, true);
                } else if (takes("[:upper:]")) {
                    Arrays.fill(set, 'A', 'Z' + 1, true);
                } else {
                    throw new Stop(5);
                }
                return;
            }
            if (sees("[.") || sees("[=")) {
                throw new Stop(6);
            }
            char x = text.charAt(at++);
            char y = x;
            if (sees("-") && at + 1 < text.length() && text.charAt(at + 1) != ']') {
                y = text.charAt(at + 1);
                at += 2;
            }
            if (y < x) {
                throw new Stop(5);
            }
            Arrays.fill(set, x, y + 1, true);
        }
    }
}
