/** How a PATTERN is read, and promises 6 to 9. */
public final class FaultsTest {
    private static final int EMPTY = TrigramLines.EMPTY;
    private static final int GROUP = TrigramLines.GROUP;
    private static final int REPEAT = TrigramLines.REPEAT;
    private static final int BRACES = TrigramLines.BRACES;
    private static final int BRACKET = TrigramLines.BRACKET;
    private static final int COLLATING = TrigramLines.COLLATING;
    private static final int ESCAPE = TrigramLines.ESCAPE;
    private static final int DEPTH = TrigramLines.DEPTH;
    private static final int SIZE = TrigramLines.SIZE;

    public static void main(String[] args) {
        typedCharacters();
        longestPattern();
        back();
        backAtNone();
        faultFollowsPattern();
        takenOffIsGone();
        faultsAtTheLongest();
        groupDepth();
        groupClosed();
        emptyAtParenthesis();
        emptyAtBar();
        repeatWhenBare();
        repeatOfAnchor();
        braces();
        bracesOrder();
        escapes();
        unclosedSet();
        classItems();
        collatingItems();
        rangeItems();
        otherCharacters();
        end();
        firstFaultIsTheFault();
        endFaultsComeLast();
        sizeOfPieces();
        sizeOfBranches();
        sizeOfRepetitions();
        sizeWithoutEnd();
        greatestSize();
        sizeOfFaulty();
        Due.end();
    }

    private static void dueFault(int want, String... patterns) {
        for (String pattern : patterns) {
            Tested x = new Tested().typed(pattern);
            Due.is("fault of " + pattern, x.fault(), want);
            Due.is("search of " + pattern, x.search(), -want);
            Due.is("whether " + pattern + " has no size", x.size() == TrigramLines.NONE, want != 0);
            Due.is("whether " + pattern + " has -2 strings", x.strings() == -2, want != 0);
        }
    }

    private static void dueSize(String pattern, int want) {
        Due.is("size of " + pattern, new Tested().typed(pattern).size(), want);
    }

    private static void typedCharacters() {
        Due.sentence("PATTERNS have characters 32 .. 126 [..] false when c is not 32 .. 126");
        Tested x = new Tested();
        for (int code = 0; code <= 65535; code++) {
            if (code >= 32 && code <= 126) {
                Tested y = new Tested();
                Due.is("type of " + code, y.type(code), true);
                Due.is("characters left of " + code, y.back(), 0);
            } else {
                x = x.calls() < 500 ? x : new Tested();
                Due.is("type of " + code, x.type(code), false);
            }
        }
        Due.is("pattern behind the refused ones", x.back(), 0);
    }

    private static void longestPattern() {
        Due.sentence("at most 24 [..] false when [..] the pattern has 24 characters");
        Tested x = new Tested().typed("a".repeat(23));
        Due.is("type of the 24th", x.type('b'), true);
        Due.is("type of the 25th", x.type('c'), false);
        Due.is("type of a fault as the 25th", x.type('('), false);
        Due.is("size of 24", x.size(), 24);
        Due.is("fault of 24", x.fault(), 0);
        x.text(0, "a".repeat(23) + "b").text(1, "a".repeat(23) + "c").search();
        Due.is("hits of the 24", x.hits(), "0/0/0-24");
        Due.is("back from 24", x.back(), 23);
        Due.is("type of the 24th again", x.type('c'), true);
        Due.is("type of the 25th again", x.type('c'), false);
        x.search();
        Due.is("hits of the other 24", x.hits(), "1/0/0-24");
    }

    private static void back() {
        Due.sentence("Takes the last character off the pattern; answers how many are left");
        Tested x = new Tested().typed("ab(");
        Due.is("of three", x.back(), 2);
        Due.is("fault of ab", x.fault(), 0);
        Due.is("size of ab", x.size(), 2);
        Due.is("of two", x.back(), 1);
        x.text(0, "xa");
        x.search();
        Due.is("hits of a", x.hits(), "0/0/1-2");
        Tested full = new Tested().typed("a".repeat(24));
        for (int left = 23; left >= 0; left--) {
            Due.is("down to " + left, full.back(), left);
        }
    }

    private static void backAtNone() {
        Due.sentence("(0 also when there was none)");
        Tested x = new Tested();
        Due.is("of a new pattern", x.back(), 0);
        x.type('a');
        Due.is("of one", x.back(), 0);
        Due.is("of none", x.back(), 0);
        Due.is("of none again", x.back(), 0);
        Due.is("fault of none", x.fault(), EMPTY);
        x.typed("b".repeat(24));
        Due.is("the 25th then", x.type('b'), false);
        Due.is("size then", x.size(), 24);
    }

    private static void faultFollowsPattern() {
        Due.sentence("The fault of the pattern, 0 when it has none.");
        Tested x = new Tested();
        Due.is("fault of nothing", x.fault(), EMPTY);
        String pattern = "a|(b^)*^*";
        int[] faults = {0, EMPTY, GROUP, GROUP, GROUP, 0, 0, 0, REPEAT};
        for (int k = 0; k < faults.length; k++) {
            x.type(pattern.charAt(k));
            Due.is("fault of " + pattern.substring(0, k + 1), x.fault(), faults[k]);
        }
        for (int k = faults.length - 2; k >= 0; k--) {
            x.back();
            Due.is("fault back at " + pattern.substring(0, k + 1), x.fault(), faults[k]);
        }
    }

    private static void takenOffIsGone() {
        Due.sentence("Takes the last character off the pattern: nothing of it is read any more");
        String[] patterns = {"[a]", "[^a]", "[]]", "[[:alpha:]]", "a{1}", "a{1,}", "a{1,2}", "(a)", "\\(",
            "\\\\", "a|b", "[a-b]", "[[.", "[b-a", "((a))"};
        for (String pattern : patterns) {
            Tested x = new Tested().typed(pattern);
            x.fault();
            for (int length = pattern.length() - 1; length >= 0; length--) {
                x.back();
                String rest = pattern.substring(0, length);
                Due.is("fault of " + rest, x.fault(), new Tested().typed(rest).fault());
            }
        }
        Tested set = new Tested().typed("[a]");
        set.back();
        Due.is("fault of [a", set.fault(), BRACKET);
        Tested braces = new Tested().typed("a{1,2}");
        braces.back();
        Due.is("fault of a{1,2", braces.fault(), BRACES);
        Tested escape = new Tested().typed("a\\(");
        escape.back();
        Due.is("fault of a\\", escape.fault(), ESCAPE);
    }

    private static void faultsAtTheLongest() {
        Due.sentence("at most 24: what a pattern of 24 characters ends in");
        dueFault(BRACKET, longest("["), longest("[^"), longest("[]"), longest("[a"), longest("[a-"), longest("[a-b"));
        dueFault(BRACKET, longest("[["), longest("[[:"), longest("[[:alpha:"), longest("[[:alpha:]"), longest("[b-a"));
        dueFault(COLLATING, longest("[[."), longest("[a[="));
        dueFault(BRACES, longest("x{"), longest("x{1"), longest("x{1,"), longest("x{1,2"));
        dueFault(ESCAPE, longest("\\"));
        dueFault(GROUP, longest("("), longest(")"), longest("(x"));
        dueFault(EMPTY, longest("|"));
        dueFault(REPEAT, longest("^*"));
        dueFault(0, longest("[a]"), longest("[[:alpha:]]"), longest("x{1,2}"), longest("\\("));
        dueFault(0, longest("(x)"), longest("|x"));
    }

    private static String longest(String end) {
        return "x".repeat(24 - end.length()) + end;
    }

    private static void groupDepth() {
        Due.sentence("( is DEPTH when six groups are open");
        dueFault(0, "(((((a)))))", "((((((a))))))");
        dueFault(DEPTH, "(((((((", "(((((((a)))))))", "((((((a(", "((((((a|(", "((((((a)((");
        dueFault(0, "(((((a)(b))))(c))", "(a)(a)(a)(a)(a)(a)(a)(a)");
        dueFault(GROUP, "((((((", "((((((a)(b)", "((((((a)(");
    }

    private static void groupClosed() {
        Due.sentence(") is GROUP when no group is open");
        dueFault(GROUP, ")", "a)", "(a))", "a|)", "^)", "((a)))", ")a(");
        dueFault(0, "(a)", "((a))", "a(b)", "(a)|b", "\\)", "[)]");
    }

    private static void emptyAtParenthesis() {
        Due.sentence(") is [..] else EMPTY when it is bare");
        dueFault(EMPTY, "()", "a()", "(a|)", "((a)|)", "(())", "(a|b|)", "a|()");
        dueFault(0, "(a)", "(^)", "(a|b)", "((a))", "(a|(b))");
    }

    private static void emptyAtBar() {
        Due.sentence("| is EMPTY when it is bare");
        dueFault(EMPTY, "|", "|a", "a||b", "(|a)", "(a||b)", "a|(|", "(a)||", "((a)|||");
        dueFault(0, "a|b", "a|b|c", "(a|b)|c", "^|$", "(a)|b", "a*|b", "\\|", "[|]");
    }

    private static void repeatWhenBare() {
        Due.sentence("* + ? { are REPEAT when it is bare");
        for (String sign : new String[] {"*", "+", "?", "{", "{1}", "{x"}) {
            dueFault(REPEAT, sign, "(" + sign, "a|" + sign, "(a|" + sign, "a(" + sign, "(a)|" + sign);
        }
        for (String sign : new String[] {"*", "+", "?", "{1}"}) {
            dueFault(0, "a" + sign, "(a" + sign + ")", "a|b" + sign, "(a)" + sign, "[a]" + sign, "." + sign,
                    "\\*" + sign, "\\" + sign.charAt(0) + sign, "[" + sign + "]");
        }
    }

    private static void repeatOfAnchor() {
        Due.sentence("or the latest piece of the branch is an anchor");
        for (String sign : new String[] {"*", "+", "?", "{", "{1}", "{x"}) {
            dueFault(REPEAT, "^" + sign, "$" + sign, "a^" + sign, "(a$" + sign, "a|^" + sign, "(a)^" + sign);
        }
        for (String sign : new String[] {"*", "+", "?", "{1}"}) {
            dueFault(0, "^a" + sign, "$a" + sign, "(^)" + sign, "(a|$)" + sign, "a" + sign + "^", "\\^" + sign,
                    "\\$" + sign, "[$]" + sign, "(^)" + sign + sign, "a" + sign + sign);
        }
    }

    private static void braces() {
        Due.sentence("Behind { must stand a digit m and }, or m and ,}, or m and a comma, a digit n not below m, "
                + "and }");
        dueFault(0, "a{0}", "a{1}", "a{9}", "a{0,}", "a{9,}", "a{0,0}", "a{0,9}", "a{9,9}", "a{1,2}");
        dueFault(0, "a{2}{3}", "a{1}}");
        dueFault(BRACES, "a{", "a{}", "a{,}", "a{,1}", "a{a}", "a{/}", "a{:}", "a{-1}", "a{ 1}", "a{{1}");
        dueFault(BRACES, "a{1", "a{10}", "a{1 }", "a{1;2}", "a{1a}", "a{1{", "a{0/}", "a{01}");
        dueFault(BRACES, "a{1,", "a{1,,}", "a{1,a}", "a{1, 2}", "a{1,/}", "a{1,:}", "a{1,-}");
        dueFault(BRACES, "a{1,2", "a{1,12}", "a{1,2,}", "a{1,2 }", "a{1,2,3}", "a{1,2{", "a{1)}");
    }

    private static void bracesOrder() {
        Due.sentence("a digit n not below m");
        for (char m = '0'; m <= '9'; m++) {
            for (char n = '0'; n <= '9'; n++) {
                dueFault(n < m ? BRACES : 0, "a{" + m + "," + n + "}");
            }
        }
    }

    private static void escapes() {
        Due.sentence("\\ must be followed by one of ^ . [ $ ( ) | * + ? { \\ [..] otherwise it is ESCAPE");
        for (char c = 32; c <= 126; c++) {
            boolean good = "^.[$()|*+?{\\".indexOf(c) >= 0;
            dueFault(good ? 0 : ESCAPE, "\\" + c, "a\\" + c + "a", "(\\" + c + ")");
            if (good) {
                Tested x = new Tested().text(0, "" + c).text(1, "\\").text(2, "a");
                Due.is("hits of \\" + c, x.search("\\" + c), c == '\\' ? 2 : 1);
            }
        }
        dueFault(ESCAPE, "\\", "a\\", "(\\", "\\\\\\", "a".repeat(23) + "\\");
        dueFault(0, "\\\\", "a".repeat(22) + "\\\\", "[\\]");
    }

    private static void unclosedSet() {
        Due.sentence("until a ] that is not in the place of the first item; when the pattern ends before, it is "
                + "BRACKET");
        dueFault(BRACKET, "[", "[^", "[]", "[^]", "[a", "[a-", "[a-b", "[^a", "[]a", "[^]a", "a[", "[[", "[^^", "[[a-");
        dueFault(0, "[a]", "[^a]", "[]]", "[^]]", "[]a]", "[^]a]", "[^^]", "[[]", "[a-]", "[a-b]");
        dueFault(0, "[]-]", "[-]", "[--]", "]", "a]", "[a]]", "[]]]");
    }

    private static void classItems() {
        Due.sentence("An item that begins with [: must go on with alpha:] or digit:] or lower:] or upper:]");
        for (String name : new String[] {"alpha", "digit", "lower", "upper"}) {
            String item = "[:" + name + ":]";
            dueFault(0, "[" + item + "]", "[^" + item + "]", "[a" + item + "b]", "[" + item + item + "]");
            dueFault(BRACKET, "[" + item, "[[:" + name, "[[:" + name + ":", "[[:" + name + "]]", "[[:" + name + ": ]]",
                    "[[:" + name + ":x]", "[[:" + name + ":}]", "[a" + item);
            dueFault(BRACKET, "[[:" + name.toUpperCase() + ":]]", "[[:" + name.substring(1) + ":]]",
                    "[[:x" + name.substring(1) + ":]]", "[[:" + name.substring(0, 4) + "x:]]", "[[: " + name + ":]]");
            dueFault(0, item, "[:" + name + "]");
        }
        dueFault(BRACKET, "[[:", "[[:]", "[[:]]", "[[::]]", "[[:space:]]", "[[:alnum:]]", "[[:a]", "[a[:");
        dueFault(BRACKET, "[^[:x", "[][:]");
        dueFault(0, "[[]:]", "[:[]", "[[a:]");
    }

    private static void collatingItems() {
        Due.sentence("An item that begins with [. or [= is COLLATING.");
        dueFault(COLLATING, "[[.", "[[=", "[[.a.]]", "[[=a=]]", "[^[.", "[^[=", "[a[.", "[a[=", "[][.", "[][=");
        dueFault(COLLATING, "[a-b[.]", "[[:alpha:][.", "[a-b[=", "[[[.", "[A-[[.");
        dueFault(0, "[.[]", "[=[]", "[[a.]", "[[a=]", "[[]", "[.]", "[=]", "[[,]", "[[/]", "[[<]", "[[>]", "[[]=");
    }

    private static void rangeItems() {
        Due.sentence("when a - and a character y other than ] stand behind it [..] it is BRACKET when y is below x");
        dueFault(0, "[a-a]", "[a-b]", "[ -~]", "[--.]", "[--a]", "[+--]", "[]-^]", "[]-a]", "[^]-a]");
        dueFault(0, "[^^-_]", "[[-a]");
        dueFault(BRACKET, "[b-a]", "[~- ]", "[--,]", "[--+]", "[a--]", "[]-[]", "[^]-[]", "[^^-A]", "[[-A]", "[xb-a]");
        dueFault(BRACKET, "[b-a", "[b-a[.", "[a-[:digit:]]", "[a-[.]", "[a-b-a-A]");
        dueFault(0, "[b-]", "[b-]a]", "[~-]", "[A-[]", "[A-[:digit:]]", "[A-[.]", "[A-[=]", "[[:digit:]-a]", "[a-b-a]");
        dueFault(0, "[a-b-z]", "[[:alpha:]--z]");
        dueFault(BRACKET, "[[:alpha:]--+]");
    }

    private static void otherCharacters() {
        Due.sentence("Each other character but [ is a set of itself.");
        for (char c = 32; c <= 126; c++) {
            if ("^.[$()|*+?{\\".indexOf(c) < 0) {
                dueFault(0, "" + c, "" + c + c);
                Tested x = new Tested().text(0, "" + c).text(1, c == '!' ? "#" : "!");
                Due.is("hits of " + c, x.search("" + c), 1);
            }
        }
    }

    private static void end() {
        Due.sentence("At the end it is GROUP when a group is open, else EMPTY when it is bare, else SIZE");
        dueFault(GROUP, "(", "(a", "((a)", "a(b", "(a|b", "(a|", "a|(", "(a{9}{9}", "(a{9}{9}|", "a{9}{9}(");
        dueFault(EMPTY, "", "a|", "a|b|", "(a)|", "a{9}{9}|");
        dueFault(SIZE, "a{9}{9}", "a|a{9}{9}", "(a{9}{9})");
        dueFault(0, "(a)", "a|b");
    }

    private static void firstFaultIsTheFault() {
        Due.sentence("A pattern is read from left to right, and the first fault that is met is the fault of the "
                + "pattern.");
        String[] parts = {"x||", "x)", "^*", "x{y", "[b-a]", "[[.]", "\\x", "((((((("};
        int[] faults = {EMPTY, GROUP, REPEAT, BRACES, BRACKET, COLLATING, ESCAPE, DEPTH};
        for (int first = 0; first < parts.length; first++) {
            dueFault(faults[first], parts[first], "xx" + parts[first], "(x)" + parts[first]);
            for (int second = 0; second < parts.length; second++) {
                dueFault(faults[first], parts[first] + parts[second]);
            }
        }
        dueFault(BRACKET, "[[:x[.", "[b-a[.]");
        dueFault(COLLATING, "[[.b-a]", "[[=[:x");
        dueFault(0, "[)]", "[(|*+?{\\]", "\\(", "\\)");
    }

    private static void endFaultsComeLast() {
        Due.sentence("At the end [..]: behind all that is met before");
        String[] parts = {"||", "^*", "x{y", "[b-a]", "[[.]", "\\x", "(((((("};
        int[] faults = {EMPTY, REPEAT, BRACES, BRACKET, COLLATING, ESCAPE, DEPTH};
        for (int k = 0; k < parts.length; k++) {
            dueFault(faults[k], "(x" + parts[k], "x{9}{9}(" + parts[k]);
        }
        dueFault(GROUP, "x{9}{9})");
        dueFault(0, "x{9}{9}{0}", "x{9}{9}{9}{9}{9}{9}{0}", "(x{9}{9}|y){0}");
        dueFault(SIZE, "x{9}{9}{9}{9}{9}{9}{9}", "x{9}{9}{9}{9}{9}{9}{1}", "(x{9}{9}|y)*");
    }

    private static void sizeOfPieces() {
        Due.sentence("The SIZE of a set or an anchor is 1");
        for (String one : new String[] {"a", ".", "^", "$", "[a-z]", "[^ -~]", "[]]", "\\.", "[[:alpha:]]"}) {
            dueSize(one, 1);
        }
    }

    private static void sizeOfBranches() {
        Due.sentence("of a branch the sum of its pieces' sizes, of a group or a pattern with k branches their sum "
                + "and k - 1 more");
        dueSize("ab", 2);
        dueSize("^ab$", 4);
        dueSize("a".repeat(24), 24);
        dueSize("(a)", 1);
        dueSize("((((((a))))))", 1);
        dueSize("a|b", 3);
        dueSize("a|b|c", 5);
        dueSize("ab|c|def", 8);
        dueSize("(a|b)(c)", 4);
        dueSize("(a|b)|c", 5);
        dueSize("((a|b)|(c|d))", 7);
    }

    private static void sizeOfRepetitions() {
        Due.sentence("of e{m,n} n times one more than that of e");
        dueSize("a{0}", 0);
        dueSize("a{0,0}", 0);
        dueSize("a?", 2);
        dueSize("a{0,1}", 2);
        dueSize("a{1}", 2);
        dueSize("a{1,1}", 2);
        dueSize("a{3}", 6);
        dueSize("a{0,3}", 6);
        dueSize("a{1,3}", 6);
        dueSize("a{9}", 18);
        dueSize("a{8,9}", 18);
        dueSize("(ab|c){2,4}", 20);
        dueSize("a{2}{3}", 15);
        dueSize("a{0}{9}", 9);
        dueSize("a??", 3);
    }

    private static void sizeWithoutEnd() {
        Due.sentence("of e{m,} m times that, or once when m is 0");
        dueSize("a*", 2);
        dueSize("a{0,}", 2);
        dueSize("a+", 2);
        dueSize("a{1,}", 2);
        dueSize("a{2,}", 4);
        dueSize("a{9,}", 18);
        dueSize("(ab)*", 3);
        dueSize("(ab){3,}", 9);
        dueSize("a**", 3);
        dueSize("a*{0}", 0);
        dueSize("a{0}*", 1);
    }

    private static void greatestSize() {
        Due.sentence("else SIZE when the size is above 60");
        dueSize("(a{9}a){2}a{9}a", 59);
        dueSize("(a{9}a){3}", 60);
        dueFault(0, "(a{9}a){2}a{9}a", "(a{9}a){3}", "(a{9}a){3,}", "a{9}{3}|ab");
        dueSize("a{9}{3}|ab", 60);
        dueSize("(a{9}a){3}a", -1);
        dueFault(SIZE, "(a{9}a){3}a", "(a{9}a){3}|a", "(a{9}a){3,}a", "a{9}{3}|abc", "a{9}{3}a|b|c", "(aa{9}a){3}");
        dueFault(SIZE, "a{9}{9}{9}{9}{9}{9}{9}aa", "(((a{9}){9}){9}){9,}");
    }

    private static void sizeOfFaulty() {
        Due.sentence("The size of the pattern; NONE when it has a fault.");
        for (String faulty : Tested.FAULTY) {
            dueSize(faulty, -1);
        }
        Tested x = new Tested().typed("ab{2}");
        Due.is("size", x.size(), 5);
        x.back();
        Due.is("size when it has a fault", x.size(), -1);
        x.typed("}");
        Due.is("size when it has none again", x.size(), 5);
    }
}
