import java.lang.reflect.Constructor;
import java.lang.reflect.Field;
import java.lang.reflect.Method;
import java.lang.reflect.Modifier;
import java.util.TreeSet;

/** For each promise of the document ordinary inputs, the edges it names, and wrong inputs. */
public final class PromisesTest {
    private static int wrong = 0;

    public static void main(String[] args) {
        face();
        newObject();
        write();
        put();
        putReplaces();
        drop();
        length();
        type();
        back();
        faultsOfGroupsAndBranches();
        faultsOfRepetitions();
        faultsOfEscapes();
        faultsOfSets();
        faultsInOrder();
        size();
        stringsOfPieces();
        stringsOfBranchesAndGroups();
        search();
        spans();
        sets();
        searchNested();
        possible();
        possibleOfBranches();
        possibleOfRepetitions();
        hit();
        shards();
        shard();
        shardsWithoutLiveVersions();
        postings();
        compact();
        left();
        refusedCallsChangeNothing();
        System.out.println(wrong == 0 ? "all answers are as due" : wrong + " answers are not as due");
        if (wrong != 0) {
            System.exit(1);
        }
    }

    private static void due(String what, long got, long want) {
        if (got != want) {
            wrong++;
            System.out.println(what + ": answered " + got + ", due is " + want);
        }
    }

    private static void due(String what, boolean got, boolean want) {
        due(what, got ? 1 : 0, want ? 1 : 0);
    }

    private static TrigramLines text(TrigramLines x, int name, String text) {
        for (char c : text.toCharArray()) {
            due("write of " + text, x.write(c), true);
        }
        x.put(name);
        return x;
    }

    private static TrigramLines withText(String text) {
        return text(new TrigramLines(), 0, text);
    }

    private static TrigramLines pattern(TrigramLines x, String pattern) {
        for (int k = 0; k < 24; k++) {
            x.back();
        }
        for (char c : pattern.toCharArray()) {
            due("type of " + pattern, x.type(c), true);
        }
        return x;
    }

    private static TrigramLines withPattern(String pattern) {
        return pattern(new TrigramLines(), pattern);
    }

    private static void dueFault(String pattern, int want) {
        TrigramLines x = withPattern(pattern);
        due("fault of " + pattern, x.fault(), want);
        due("search with the fault of " + pattern, x.search(), -want);
        due("whether " + pattern + " has a size", x.size() != TrigramLines.NONE, want == 0);
        due("whether " + pattern + " has -2 strings", x.strings() == -2, want != 0);
    }

    private static void dueSize(String pattern, int want) {
        due("size of " + pattern, withPattern(pattern).size(), want);
    }

    private static void dueStrings(String pattern, int want) {
        due("strings of " + pattern, withPattern(pattern).strings(), want);
    }

    /** One line; i and j are NONE when no hit is due. */
    private static void dueSpan(String pattern, String line, int i, int j) {
        TrigramLines x = pattern(withText(line), pattern);
        String what = pattern + " in " + line;
        due("hits of " + what, x.search(), i < 0 ? 0 : 1);
        due("span of " + what, x.hit(0), i < 0 ? TrigramLines.NONE : i * 256 + j);
    }

    private static void duePossible(String pattern, String text, boolean want) {
        TrigramLines x = pattern(withText(text), pattern);
        x.search();
        due("possible for " + pattern + " in " + text, x.possible(), want ? 1 : 0);
    }

    private static void dueShard(TrigramLines x, int k, int level, int count, int live) {
        due("level of shard " + k, x.shard(k, 0), level);
        due("versions of shard " + k, x.shard(k, 1), count);
        due("live versions of shard " + k, x.shard(k, 2), live);
    }

    private static void face() {
        TreeSet<String> seen = new TreeSet<>();
        for (Method m : TrigramLines.class.getDeclaredMethods()) {
            if (!Modifier.isPrivate(m.getModifiers()) && !m.isSynthetic()) {
                due("public " + m, Modifier.isPublic(m.getModifiers()), true);
                seen.add(m.getName());
            }
        }
        for (Field f : TrigramLines.class.getDeclaredFields()) {
            if (!Modifier.isPrivate(f.getModifiers())) {
                due("constant " + f, Modifier.isStatic(f.getModifiers()) && Modifier.isFinal(f.getModifiers()), true);
                seen.add(f.getName());
            }
        }
        String want = "[BRACES, BRACKET, COLLATING, DEPTH, EMPTY, ESCAPE, GROUP, NONE, REPEAT, SIZE, back, "
                + "compact, drop, fault, hit, left, length, possible, postings, put, search, shard, shards, "
                + "size, strings, type, write]";
        due("members are " + seen, seen.toString().equals(want), true);
        Constructor<?>[] made = TrigramLines.class.getConstructors();
        due("public constructors", made.length, 1);
        int[] constants = {TrigramLines.EMPTY, TrigramLines.GROUP, TrigramLines.REPEAT, TrigramLines.BRACES,
            TrigramLines.BRACKET, TrigramLines.COLLATING, TrigramLines.ESCAPE, TrigramLines.DEPTH,
            TrigramLines.SIZE};
        for (int k = 0; k < constants.length; k++) {
            due("constant", constants[k], k + 1);
        }
        due("NONE", TrigramLines.NONE, -1);
    }

    private static void newObject() {
        TrigramLines x = new TrigramLines();
        for (int name = 0; name < 10; name++) {
            due("new: length", x.length(name), -1);
            due("new: drop", x.drop(name), false);
        }
        due("new: fault", x.fault(), TrigramLines.EMPTY);
        due("new: size", x.size(), -1);
        due("new: strings", x.strings(), -2);
        due("new: search", x.search(), -1);
        due("new: possible", x.possible(), 0);
        due("new: hit", x.hit(0), -1);
        due("new: shards", x.shards(), 0);
        dueShard(x, -1, 0, 0, 0);
        due("new: postings", x.postings('a', 'a', 'a'), 0);
        due("new: compact", x.compact(), 0);
        due("new: left", x.left(), 0);
        due("new: back", x.back(), 0);
        due("new: put", x.put(9), 1);
        due("new: the draft is empty", x.length(9), 0);
    }

    private static void write() {
        TrigramLines x = new TrigramLines();
        int[] wrongCodes = {0, 9, 11, 13, 31, 127, 128, 255, 256 + 97, 65535};
        for (int code : wrongCodes) {
            due("write of " + code, x.write((char) code), false);
        }
        due("write of 10", x.write((char) 10), true);
        due("write of 32", x.write((char) 32), true);
        due("write of 126", x.write((char) 126), true);
        for (int k = 3; k < 40; k++) {
            due("write of character " + k, x.write('a'), true);
        }
        due("write of character 40", x.write('a'), false);
        due("write of a newline as character 40", x.write((char) 10), false);
        x.put(0);
        due("length of the longest text", x.length(0), 40);
        due("write after put", x.write('a'), true);
    }

    private static void put() {
        TrigramLines x = new TrigramLines();
        x.write('a');
        due("put(-1)", x.put(-1), -1);
        due("put(10)", x.put(10), -1);
        due("put(MIN)", x.put(Integer.MIN_VALUE), -1);
        due("put(MAX)", x.put(Integer.MAX_VALUE), -1);
        due("the refused version is in no shard", x.shard(-1, 1), 0);
        due("put(0)", x.put(0), 1);
        due("the draft outlived the refused put", x.length(0), 1);
        due("put(9)", x.put(9), 2);
        due("the draft was empty", x.length(9), 0);
        due("put(9) again", x.put(9), 3);
        x.drop(9);
        due("put after a drop", x.put(9), 4);
    }

    private static void putReplaces() {
        TrigramLines x = text(text(new TrigramLines(), 4, "abcd"), 4, "xyz");
        due("length of the second text", x.length(4), 3);
        dueShard(x, -1, 0, 2, 1);
        due("hits in the first text", pattern(x, "bc").search(), 0);
        due("hits in the second text", pattern(x, "yz").search(), 1);
    }

    private static void drop() {
        TrigramLines x = text(new TrigramLines(), 3, "abc");
        due("drop(2)", x.drop(2), false);
        due("drop(-1)", x.drop(-1), false);
        due("drop(10)", x.drop(10), false);
        due("drop(3)", x.drop(3), true);
        due("drop(3) again", x.drop(3), false);
        due("length after drop", x.length(3), -1);
        dueShard(x, -1, 0, 1, 0);
        due("search after drop", pattern(x, "abc").search(), 0);
        due("possible after drop", x.possible(), 0);
        text(x, 5, "");
        due("drop of an empty text", x.drop(5), true);
    }

    private static void length() {
        TrigramLines x = text(text(new TrigramLines(), 0, "a\nb\n"), 9, "");
        due("length(0)", x.length(0), 4);
        due("length(9)", x.length(9), 0);
        due("length(1)", x.length(1), -1);
        due("length(-1)", x.length(-1), -1);
        due("length(10)", x.length(10), -1);
        due("length(MIN)", x.length(Integer.MIN_VALUE), -1);
        x.write('a');
        due("the draft is no text", x.length(0), 4);
    }

    private static void type() {
        TrigramLines x = new TrigramLines();
        int[] wrongCodes = {0, 10, 31, 127, 255, 256 + 97, 65535};
        for (int code : wrongCodes) {
            due("type of " + code, x.type((char) code), false);
        }
        due("type of 32", x.type((char) 32), true);
        due("type of 126", x.type((char) 126), true);
        due("size of two", x.size(), 2);
        for (int k = 2; k < 24; k++) {
            due("type of character " + k, x.type('a'), true);
        }
        due("type of character 24", x.type('a'), false);
        due("size of the longest", x.size(), 24);
        due("back from the longest", x.back(), 23);
        due("type after back", x.type('b'), true);
    }

    private static void back() {
        TrigramLines x = withPattern("ab(");
        due("fault before back", x.fault(), TrigramLines.GROUP);
        due("back to 2", x.back(), 2);
        due("fault after back", x.fault(), 0);
        due("size after back", x.size(), 2);
        due("back to 1", x.back(), 1);
        due("size after another", x.size(), 1);
        due("back to 0", x.back(), 0);
        due("back at 0", x.back(), 0);
        due("fault of nothing", x.fault(), TrigramLines.EMPTY);
        due("type after all", x.type('c'), true);
        due("size after all", x.size(), 1);
    }

    private static void faultsOfGroupsAndBranches() {
        dueFault("", TrigramLines.EMPTY);
        dueFault("|a", TrigramLines.EMPTY);
        dueFault("a|", TrigramLines.EMPTY);
        dueFault("a||b", TrigramLines.EMPTY);
        dueFault("()", TrigramLines.EMPTY);
        dueFault("(a|)", TrigramLines.EMPTY);
        dueFault("(|a)", TrigramLines.EMPTY);
        dueFault("a(", TrigramLines.GROUP);
        dueFault("(a", TrigramLines.GROUP);
        dueFault("(a|", TrigramLines.GROUP);
        dueFault(")", TrigramLines.GROUP);
        dueFault("a|)", TrigramLines.GROUP);
        dueFault("(a))", TrigramLines.GROUP);
        dueFault("((((((a))))))", 0);
        dueFault("(((((((a", TrigramLines.DEPTH);
        dueFault("((((((a)(b)", TrigramLines.GROUP);
        dueFault("((((((a)(((b", TrigramLines.DEPTH);
        dueFault("(a)(a)(a)(a)(a)(a)(a)(a)", 0);
        dueFault("^$", 0);
        dueFault("}],-~ ", 0);
    }

    private static void faultsOfRepetitions() {
        String[] bare = {"*", "+", "?", "{", "{1}", "(*a)", "a|+", "^*", "$+", "a^?", "^{1}", "(a|?", "a^{"};
        for (String pattern : bare) {
            dueFault(pattern, TrigramLines.REPEAT);
        }
        String[] braces = {"a{", "a{1", "a{a}", "a{}", "a{,1}", "a{1,", "a{1,2", "a{12}", "a{2,1}", "a{1,12}",
            "a{1;2}", "a{1,a}", "a{-1}", "a{1 }", "a{1,,}"};
        for (String pattern : braces) {
            dueFault(pattern, TrigramLines.BRACES);
        }
        String[] good = {"a*", "a+", "a?", "a{0}", "a{9}", "a{0,}", "a{0,0}", "a{2,2}", "a{1,9}", "a**", "a*+?{2}",
            "(^)*", "(a|$)+", "a{1}}", "^a*", ".*", "[a]*", "\\**"};
        for (String pattern : good) {
            dueFault(pattern, 0);
        }
    }

    private static void faultsOfEscapes() {
        for (char c = 32; c < 127; c++) {
            boolean good = "^.[$()|*+?{\\".indexOf(c) >= 0;
            dueFault("\\" + c, good ? 0 : TrigramLines.ESCAPE);
        }
        dueFault("\\", TrigramLines.ESCAPE);
        dueFault("a\\", TrigramLines.ESCAPE);
        dueFault("\\\\\\", TrigramLines.ESCAPE);
    }

    private static void faultsOfSets() {
        String[] bracket = {"[", "[^", "[]", "[^]", "[a", "[a-", "[b-a]", "[a-[:digit:]]", "[[:", "[[:alpha:",
            "[[:alpha]]", "[[:space:]]", "[[:Alpha:]]", "[[", "[a[:x", "[~- ]", "[b-a[.", "[]-[]"};
        for (String pattern : bracket) {
            dueFault(pattern, TrigramLines.BRACKET);
        }
        String[] collating = {"[[.", "[[=", "[[.a.]]", "[[=a=]]", "[^[.", "[a[=", "[][.", "[a-b[.b-a]"};
        for (String pattern : collating) {
            dueFault(pattern, TrigramLines.COLLATING);
        }
        String[] good = {"[]]", "[^]]", "[^^]", "[a-a]", "[--a]", "[A-[:digit:]]", "[A-[.]", "[[-a]", "[[]", "[.[]",
            "[\\]", "[]-a]", "[[:alpha:][:digit:]]", "[[:lower:]-z]", "[^[:upper:]]", "[:alpha:]", "[a-]-z]", "[a-]"};
        for (String pattern : good) {
            dueFault(pattern, 0);
        }
    }

    private static void faultsInOrder() {
        dueFault("a)[", TrigramLines.GROUP);
        dueFault("[)", TrigramLines.BRACKET);
        dueFault("(*", TrigramLines.REPEAT);
        dueFault("\\a(", TrigramLines.ESCAPE);
        dueFault("a{x)", TrigramLines.BRACES);
        dueFault("||\\", TrigramLines.EMPTY);
        dueFault("(a{9}{9}", TrigramLines.GROUP);
        dueFault("a{9}{9}|", TrigramLines.EMPTY);
        dueFault("a{9}{9}", TrigramLines.SIZE);
        dueFault("a{9}{9}{9}{9}{9}{9}{9}", TrigramLines.SIZE);
        dueFault("a{9}{9}{9}{9}{9}{9}{0}", 0);
    }

    private static void size() {
        dueSize("a", 1);
        dueSize("^", 1);
        dueSize("[a-z]", 1);
        dueSize("a|b|c", 5);
        dueSize("(a|b)(c)", 4);
        dueSize("a{0}", 0);
        dueSize("a{0,0}", 0);
        dueSize("a{0,}", 2);
        dueSize("a*", 2);
        dueSize("a+", 2);
        dueSize("a?", 2);
        dueSize("a{3}", 6);
        dueSize("a{3,}", 6);
        dueSize("a{1,3}", 6);
        dueSize("(ab|c){2,4}", 20);
        dueSize("a**", 3);
        dueSize("a{0}{9}", 9);
        dueSize("(a{9}a){3}", 60);
        dueSize("(a{9}a){3}a", -1);
        dueFault("(a{9}a){3}a", TrigramLines.SIZE);
        dueSize("(", -1);
    }

    private static void stringsOfPieces() {
        dueStrings("a", 1);
        dueStrings("[ab]", 2);
        dueStrings("[a-d]", 4);
        dueStrings("[a-e]", -1);
        dueStrings("[aaaab-bb]", 2);
        dueStrings("[^ -~]", 0);
        dueStrings("[^ -}]", 1);
        dueStrings("[^ -y]", -1);
        dueStrings("[^ -z]", 4);
        dueStrings(".", -1);
        dueStrings("^", 1);
        dueStrings("$", 1);
        dueStrings("a{0}", 1);
        dueStrings(".{0}", 1);
        dueStrings("a{1}", 1);
        dueStrings(".{1}", -1);
        dueStrings("a{9}", 1);
        dueStrings("[ab]{2}", 4);
        dueStrings("[ab]{3}", -1);
        dueStrings("a{1,2}", -1);
        dueStrings("a{1,1}", 1);
        dueStrings("a{2,}", -1);
        dueStrings("a*", -1);
        dueStrings("a?", -1);
        dueStrings("(a", -2);
        dueStrings("a{9}{9}", -2);
    }

    private static void stringsOfBranchesAndGroups() {
        dueStrings("abcdefghijkl", 1);
        dueStrings("abcdefghijklm", -1);
        dueStrings("abcdefghijklm[^ -~]", -1);
        dueStrings("[^ -~]abcdefghijklm", 0);
        dueStrings("[ab][cd]", 4);
        dueStrings("[ab][cd][ef]", -1);
        dueStrings("^ab$", 1);
        dueStrings("a|b|c|d", 4);
        dueStrings("a|b|c|d|e", -1);
        dueStrings("a|b|c|d|a|b", 4);
        dueStrings("a|^|$", 2);
        dueStrings("(a|aa)(a|aa)", 3);
        dueStrings("(a|aa)(a|aa|aaa)", 4);
        dueStrings("(a|aa){3}", 4);
        dueStrings("(a|aa){4}", -1);
        dueStrings("[^ -~]|a", 1);
        dueStrings("a|.", -1);
        dueStrings("(ab|cd)e{4}", 2);
        dueStrings("(abcdef){2}", 1);
        dueStrings("(abcdef){2}a", -1);
        dueStrings("(abcdef|a){2}$", 4);
    }

    private static void search() {
        TrigramLines x = new TrigramLines();
        text(x, 9, "abc\nxabc\n\nab");
        text(x, 2, "ab\ncab");
        text(x, 5, "");
        due("hits of abc", pattern(x, "abc").search(), 2);
        due("hits of ab", pattern(x, "ab").search(), 5);
        due("hit 0 of ab", x.hit(0), 2 * 16777216 + 2);
        due("hit 1 of ab", x.hit(1), 2 * 16777216 + 65536 + 256 + 3);
        due("hit 2 of ab", x.hit(2), 9 * 16777216 + 2);
        due("hit 3 of ab", x.hit(3), 9 * 16777216 + 65536 + 256 + 3);
        due("hit 4 of ab", x.hit(4), 9 * 16777216 + 3 * 65536 + 2);
        due("hits of ^$", pattern(x, "^$").search(), 2);
        due("hit 0 of ^$", x.hit(0), 5 * 16777216);
        due("hit 1 of ^$", x.hit(1), 9 * 16777216 + 2 * 65536);
        due("hits of $", pattern(x, "$").search(), 7);
        due("no match goes over a newline", pattern(x, "bc.*x").search(), 0);
        due("the newline is in no set", pattern(x, "[^a]*").search(), 7);
        TrigramLines full = new TrigramLines();
        for (int name = 0; name < 10; name++) {
            text(full, name, "\n".repeat(40));
        }
        due("the most hits", pattern(full, "^").search(), 410);
        due("the last of the most hits", full.hit(409), 9 * 16777216 + 40 * 65536);
        due("none behind it", full.hit(410), -1);
    }

    private static void spans() {
        dueSpan("a", "bab", 1, 2);
        dueSpan("a", "b", -1, -1);
        dueSpan("a*", "baa", 0, 0);
        dueSpan("a+", "baaab", 1, 4);
        dueSpan("a|ab|abc", "xabcd", 1, 4);
        dueSpan("abc|ab|a", "xabd", 1, 3);
        dueSpan("b|.*c", "abc", 0, 3);
        dueSpan("(a|ab)(c|bcd)", "abcd", 0, 4);
        dueSpan("^a", "ba", -1, -1);
        dueSpan("^a", "ab", 0, 1);
        dueSpan("a$", "aba", 2, 3);
        dueSpan("$", "abc", 3, 3);
        dueSpan("a^", "aa", -1, -1);
        dueSpan("$a", "aa", -1, -1);
        dueSpan("(^|b)a", "cba", 1, 3);
        dueSpan("x*^a", "xa", -1, -1);
        dueSpan("a{2}", "aaa", 0, 2);
        dueSpan("a{2,}", "baaaa", 1, 5);
        dueSpan("a{2,}", "a", -1, -1);
        dueSpan("a{2,3}", "aaaaa", 0, 3);
        dueSpan("a{0}", "aaa", 0, 0);
        dueSpan("(ab){1,2}", "abababab", 0, 4);
        dueSpan("(a|^){2}b", "ab", 0, 2);
        dueSpan("(a|^){3}b", "aab", 0, 3);
        dueSpan(".{9}", "x".repeat(40), 0, 9);
        dueSpan(".*x", "a".repeat(39) + "x", 0, 40);
        dueSpan("x$", "a".repeat(39) + "x", 39, 40);
        dueSpan("[^ -~]", "abc", -1, -1);
        dueSpan(".", " ", 0, 1);
        dueSpan(".", "~", 0, 1);
    }

    private static void sets() {
        for (char c = 32; c < 127; c++) {
            String line = String.valueOf(c);
            boolean letter = c >= 'a' && c <= 'z' || c >= 'A' && c <= 'Z';
            dueIn("[[:alpha:]]", line, letter);
            dueIn("[^[:alpha:]]", line, !letter);
            dueIn("[[:digit:]]", line, c >= '0' && c <= '9');
            dueIn("[[:lower:]]", line, c >= 'a' && c <= 'z');
            dueIn("[[:upper:]]", line, c >= 'A' && c <= 'Z');
            dueIn("[?-B]", line, c >= '?' && c <= 'B');
            dueIn("[]^-]", line, c == ']' || c == '^' || c == '-');
            dueIn("[^]]", line, c != ']');
            dueIn("[a-]", line, c == 'a' || c == '-');
            dueIn("[--0]", line, c >= '-' && c <= '0');
            dueIn("[]-a]", line, c >= ']' && c <= 'a');
            dueIn("[[:digit:]-z]", line, c >= '0' && c <= '9' || c == '-' || c == 'z');
            dueIn("[\\.]", line, c == '\\' || c == '.');
            dueIn("\\.", line, c == '.');
            dueIn("]", line, c == ']');
            dueIn("}", line, c == '}');
        }
        dueSpan("[A-[:digit:]]", "t]", 0, 2);
        dueSpan("[a-]-z]", "--z]", 0, 4);
    }

    private static void dueIn(String set, String line, boolean want) {
        dueSpan(set, line, want ? 0 : -1, 1);
    }

    /** Repetitions inside repetitions must neither be wrong nor take for ever. */
    private static void searchNested() {
        String many = "a".repeat(39) + "b";
        dueSpan("a" + "*".repeat(23), many, 0, 39);
        dueSpan("a" + "+".repeat(22) + "b", many, 0, 40);
        dueSpan("a" + "?".repeat(22) + "b", many, 38, 40);
        dueSpan("((((((a*)*)*)*)*)*)*c", many, -1, -1);
        dueSpan("((((((a+)+)*b?)*)+)*c?)*", many, 0, 40);
        dueSpan("((((.*a)*.)*a)*.)*$", many, 0, 40);
        dueSpan("(aa)*(aaa)*b", "x" + many.substring(2), 1, 39);
        dueSpan("((aa)+|(aaa)+)+$", "ba", -1, -1);
        dueSpan("(a?){3}{4}", many, 0, 12);
    }

    private static void possible() {
        TrigramLines x = new TrigramLines();
        text(text(text(x, 0, "abc"), 4, "ab\nc"), 9, "xabcx");
        due("hits of ^abc$", pattern(x, "^abc$").search(), 1);
        due("possible for ^abc$", x.possible(), 1 + 512);
        x.drop(9);
        due("possible is of the search", x.possible(), 1 + 512);
        pattern(x, "(");
        x.search();
        due("possible after a refused search", x.possible(), 1 + 512);
        pattern(x, "q.*").search();
        due("possible for q.*", x.possible(), 1 + 16);
        pattern(x, "[^ -~]").search();
        due("possible for an empty set", x.possible(), 0);
        duePossible("ab", "", true);
        duePossible("abc", "", false);
        duePossible("abcd", "bcd abc", true);
        duePossible("abcd", "bc abc", false);
        duePossible("abc|xyz", "xyz", true);
        duePossible("abc|xyz", "xy", false);
        duePossible("abc|x.", "", true);
        duePossible("abc|xyz|[ab][ab][ab]", "q", true);
        duePossible("abc|xyz.", "q", false);
    }

    private static void possibleOfBranches() {
        duePossible("abc.xyz", "abc", false);
        duePossible("abc.xyz", "xyz", false);
        duePossible("abc.xyz", "xyzabc", true);
        duePossible("ab.cd", "", true);
        duePossible("(abc|d.)e", "q", true);
        duePossible("(abc|def.)g", "q", false);
        duePossible("(abc|def.)g", "def", true);
        duePossible("[^ -~]|a", "", true);
        duePossible("[^ -~].", "abc", false);
        duePossible(".[^ -~]", "abc", false);
        // The thirteenth character begins a new list, so nothing that goes over it is asked for.
        duePossible("abcdefghijklm", "abcdefghijkl", true);
        duePossible("abcdefghijklmno", "abcdefghijkl", false);
        duePossible("abcdefghijklmno", "abcdefghijkl mno", true);
        duePossible("[ab][cd][ef]", "", true);
        duePossible("[ab]x[cd]", "bxd", true);
        duePossible("[ab]x[cd]", "xbx", false);
        duePossible("^abc$", "xabcx", true);
    }

    private static void possibleOfRepetitions() {
        duePossible("(abc)?", "", true);
        duePossible("(abc)*", "", true);
        duePossible("(abc){0}", "", true);
        duePossible("(abc)+", "ab", false);
        duePossible("(abc)+", "abc", true);
        duePossible("(abc){2}", "abc", false);
        duePossible("(abc){2}", "cabca", true);
        duePossible("(abc){2,3}", "abc", false);
        duePossible("(abc){2,}", "abcabc", true);
        duePossible("([ab]x){3}", "axaxax", true);
        duePossible("([ab]x){3}", "ax", false);
        duePossible("([ab]xy){3}", "axy xya yax", true);
        duePossible("([ab]xy){3}", "axyb", false);
        duePossible("(abc.){2}", "abc", true);
        duePossible("(abc.){2}", "ab", false);
        duePossible("a{1,2}bc", "bc", true);
        duePossible("a{1}bc", "bc", false);
    }

    private static void hit() {
        TrigramLines x = text(withText("ab\nb"), 7, "xxb");
        due("hit before a search", x.hit(0), -1);
        pattern(x, "b").search();
        due("hit(0)", x.hit(0), 256 + 2);
        due("hit(1)", x.hit(1), 65536 + 1);
        due("hit(2)", x.hit(2), 7 * 16777216 + 2 * 256 + 3);
        due("hit(3)", x.hit(3), -1);
        due("hit(-1)", x.hit(-1), -1);
        due("hit(MIN)", x.hit(Integer.MIN_VALUE), -1);
        due("hit(MAX)", x.hit(Integer.MAX_VALUE), -1);
        x.drop(0);
        text(x, 7, "q");
        due("hit is as it was found", x.hit(2), 7 * 16777216 + 2 * 256 + 3);
        pattern(x, "b(");
        x.search();
        due("hit after a refused search", x.hit(0), 256 + 2);
        pattern(x, "b").search();
        due("hit after another search", x.hit(0), -1);
    }

    private static void shards() {
        TrigramLines x = new TrigramLines();
        int[] want = {0, 0, 1, 1, 1, 1, 1, 1, 2, 2, 2, 1};
        for (int k = 0; k < want.length; k++) {
            x.put(k % 10);
            due("shards after version " + (k + 1), x.shards(), want[k]);
        }
    }

    private static void shard() {
        TrigramLines x = new TrigramLines();
        for (int name = 0; name < 9; name++) {
            x.put(name);
        }
        dueShard(x, 0, 1, 6, 6);
        dueShard(x, 1, 0, 3, 3);
        dueShard(x, -1, 0, 0, 0);
        x.put(0);
        x.drop(7);
        dueShard(x, 0, 1, 6, 5);
        dueShard(x, 1, 0, 3, 2);
        dueShard(x, -1, 0, 1, 1);
        x.put(0);
        dueShard(x, -1, 0, 2, 1);
        x.put(0);
        dueShard(x, 0, 2, 8, 8);
        dueShard(x, 1, -1, -1, -1);
        dueShard(x, -2, -1, -1, -1);
        dueShard(x, Integer.MIN_VALUE, -1, -1, -1);
        dueShard(x, Integer.MAX_VALUE, -1, -1, -1);
        due("shard(0, -1)", x.shard(0, -1), -1);
        due("shard(0, 3)", x.shard(0, 3), -1);
        due("shard(-1, 3)", x.shard(-1, 3), -1);
    }

    private static void shardsWithoutLiveVersions() {
        TrigramLines x = new TrigramLines();
        for (int k = 0; k < 5; k++) {
            x.put(0);
        }
        dueShard(x, 0, 0, 3, 0);
        x.drop(0);
        x.put(1);
        dueShard(x, 0, 1, 1, 1);
        for (int k = 0; k < 3; k++) {
            x.put(1);
        }
        dueShard(x, 0, 1, 1, 0);
        dueShard(x, 1, 0, 3, 1);
        x.put(1);
        x.put(1);
        x.put(1);
        dueShard(x, 0, 2, 1, 1);
        due("left", x.left(), 11);
        TrigramLines y = new TrigramLines();
        for (int k = 0; k < 3; k++) {
            y.put(0);
        }
        y.drop(0);
        for (int k = 0; k < 3; k++) {
            y.put(5);
        }
        dueShard(y, 0, 1, 1, 1);
        y.drop(5);
        y.put(5);
        y.drop(5);
        due("a merge of none that is live", y.compact(), 1);
        due("leaves no shard", y.shards(), 0);
        due("and takes out all", y.left(), 7);
    }

    private static void postings() {
        TrigramLines x = new TrigramLines();
        text(text(text(text(x, 0, "aaaa"), 1, "aa\na"), 2, "aa"), 3, "xaaax");
        due("postings of aaa", x.postings('a', 'a', 'a'), 2);
        due("postings over a newline", x.postings('a', 10, 'a'), 1);
        due("postings of aa and newline", x.postings('a', 'a', 10), 1);
        due("postings of axa", x.postings('a', 'x', 'a'), 0);
        text(x, 3, "aaa");
        x.drop(0);
        due("postings of aaa, live or not", x.postings('a', 'a', 'a'), 3);
        x.compact();
        due("postings of aaa after merging", x.postings('a', 'a', 'a'), 1);
        int[] wrongCodes = {-1, 0, 9, 11, 31, 127, 256 + 'a', 65536 + 'a', Integer.MIN_VALUE, Integer.MAX_VALUE};
        for (int code : wrongCodes) {
            due("postings of a, a, " + code, x.postings('a', 'a', code), 0);
            due("postings of a, " + code, x.postings('a', code, 'a'), 0);
            due("postings of " + code, x.postings(code, 'a', 'a'), 0);
        }
    }

    private static void compact() {
        TrigramLines x = new TrigramLines();
        for (int name = 0; name < 10; name++) {
            x.put(name);
        }
        due("shards before", x.shards(), 2);
        due("compact of three", x.compact(), 2);
        due("shards after", x.shards(), 1);
        dueShard(x, 0, 2, 10, 10);
        dueShard(x, -1, 0, 0, 0);
        due("compact of one", x.compact(), 0);
        dueShard(x, 0, 2, 10, 10);
        for (int k = 0; k < 3; k++) {
            x.put(k);
        }
        dueShard(x, 0, 2, 10, 7);
        dueShard(x, 1, 0, 3, 3);
        due("compact of two", x.compact(), 1);
        dueShard(x, 0, 3, 10, 10);
        TrigramLines y = new TrigramLines();
        y.put(0);
        y.drop(0);
        due("compact of the open shard alone", y.compact(), 0);
        dueShard(y, 0, 0, 1, 0);
        due("nothing is taken out of it", y.left(), 0);
        y.put(0);
        y.drop(0);
        due("compact that leaves no shard", y.compact(), 1);
        due("shards then", y.shards(), 0);
        TrigramLines z = new TrigramLines();
        for (int k = 0; k < 9; k++) {
            z.put(1);
        }
        z.put(2);
        z.drop(1);
        z.drop(2);
        due("sealed shards before compact", z.shards(), 2);
        due("merges when the first leaves no shard", z.compact(), 1);
        due("the oldest stays", z.shards(), 1);
        dueShard(z, 0, 1, 1, 0);
    }

    private static void left() {
        TrigramLines x = new TrigramLines();
        for (int k = 0; k < 5; k++) {
            x.put(0);
        }
        due("left before a merge", x.left(), 0);
        x.put(0);
        due("left after a merge", x.left(), 5);
        x.drop(0);
        due("left after a drop", x.left(), 5);
        x.put(1);
        x.compact();
        due("left after compact", x.left(), 6);
    }

    private static void refusedCallsChangeNothing() {
        TrigramLines x = pattern(text(withText("abc"), 3, "xx"), "b");
        x.search();
        x.write('q');
        x.put(10);
        x.put(-1);
        x.write((char) 9);
        x.type((char) 10);
        x.drop(10);
        x.drop(5);
        due("shards", x.shards(), 0);
        dueShard(x, -1, 0, 2, 2);
        due("size", x.size(), 1);
        due("hit", x.hit(0), 256 + 2);
        due("possible", x.possible(), 1 + 8);
        due("put", x.put(4), 3);
        due("length", x.length(4), 1);
    }
}
