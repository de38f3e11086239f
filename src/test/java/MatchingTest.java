/** MATCHING of the terms, and promises 11 and 13. */
public final class MatchingTest {
    private static final int MIN = Integer.MIN_VALUE;
    private static final int MAX = Integer.MAX_VALUE;
    private static final String NO_HIT = "";

    public static void main(String[] args) {
        set();
        startAnchor();
        endAnchor();
        emptyLine();
        branch();
        group();
        repetitionFromTo();
        repetitionOfEqual();
        repetitionOfNone();
        repetitionWithoutEnd();
        repetitionOfEmpty();
        repetitionOfRepetition();
        leastStart();
        greatestEnd();
        longestLine();
        lateLine();
        nested();
        hitsOfSearch();
        noHits();
        mostHits();
        onlyLive();
        onlyPossible();
        searchOfFaulty();
        hitOrder();
        hitNumber();
        hitIsAsFound();
        hitOfLatest();
        hitWithoutSearch();
        Due.end();
    }

    /** The span as i-j in a text of one line. */
    private static void dueSpan(String pattern, String line, String span) {
        Tested x = new Tested().text(0, line);
        Due.is("hits of " + pattern + " in " + line, x.search(pattern), span.equals(NO_HIT) ? 0 : 1);
        Due.is("span of " + pattern + " in " + line, x.hits(), span.equals(NO_HIT) ? "" : "0/0/" + span);
    }

    private static void set() {
        Due.sentence("a set, when j is i + 1 and the character at place i (from 0) is in the set");
        dueSpan("a", "a", "0-1");
        dueSpan("a", "abb", "0-1");
        dueSpan("a", "bba", "2-3");
        dueSpan("a", "bab", "1-2");
        dueSpan("a", "b", NO_HIT);
        dueSpan("a", "", NO_HIT);
        dueSpan("[ab]", "cb", "1-2");
        dueSpan("[^ -~]", "abc", NO_HIT);
        dueSpan("[^ -~]", "", NO_HIT);
    }

    private static void startAnchor() {
        Due.sentence("^ when i and j are 0");
        dueSpan("^", "ab", "0-0");
        dueSpan("^a", "ab", "0-1");
        dueSpan("^a", "ba", NO_HIT);
        dueSpan("a^", "aa", NO_HIT);
        dueSpan("a*^b", "ab", NO_HIT);
        dueSpan("a*^a", "ab", "0-1");
        dueSpan("^^a", "ab", "0-1");
        Tested x = new Tested().text(0, "ab\nab\nba");
        x.search("^a");
        Due.is("in each line", x.hits(), "0/0/0-1 0/1/0-1");
    }

    private static void endAnchor() {
        Due.sentence("$ when both are the line's length");
        dueSpan("$", "ab", "2-2");
        dueSpan("b$", "ab", "1-2");
        dueSpan("a$", "ab", NO_HIT);
        dueSpan("a$", "aba", "2-3");
        dueSpan("$a", "aa", NO_HIT);
        dueSpan("a$b*", "ba", "1-2");
        dueSpan("a$$", "a", "0-1");
        Tested x = new Tested().text(0, "ab\nb\nba");
        x.search("b$");
        Due.is("in each line", x.hits(), "0/0/1-2 0/1/0-1");
    }

    private static void emptyLine() {
        Due.sentence("some perhaps empty: both anchors and none of e match in an empty line");
        for (String pattern : new String[] {"^", "$", "^$", "$^", "a*", "a?", "a{0}", "(^)*", "(a|$)", "^a{0,9}$"}) {
            dueSpan(pattern, "", "0-0");
        }
        for (String pattern : new String[] {"a", ".", "[^a]", "a+", "^.$", "a{1,}", "a*.", "(a|b)"}) {
            dueSpan(pattern, "", NO_HIT);
        }
        dueSpan("^$", "a", NO_HIT);
        dueSpan("$^", "a", NO_HIT);
    }

    private static void branch() {
        Due.sentence("a branch, when its pieces match one behind the other, the first from i, the last to j");
        dueSpan("abc", "abc", "0-3");
        dueSpan("abc", "ababc", "2-5");
        dueSpan("abc", "ab", NO_HIT);
        dueSpan("abc", "abxc", NO_HIT);
        dueSpan("abc", "acb", NO_HIT);
        dueSpan("a*ab", "aaab", "0-4");
        dueSpan("a?a", "a", "0-1");
        Tested x = new Tested().text(0, "ab\nc");
        Due.is("hits over a newline", x.search("bc"), 0);
    }

    private static void group() {
        Due.sentence("a group or pattern when one of its branches does");
        dueSpan("ab|cd", "xcd", "1-3");
        dueSpan("ab|cd", "ad", NO_HIT);
        dueSpan("a(b|c)d", "abd", "0-3");
        dueSpan("a(b|c)d", "acd", "0-3");
        dueSpan("a(b|c)d", "abcd", NO_HIT);
        dueSpan("(a|ab)(c|bcd)", "abcd", "0-4");
        dueSpan("(^|b)a", "cba", "1-3");
        dueSpan("(^|b)a", "ca", NO_HIT);
        dueSpan("((((((a))))))", "ba", "1-2");
    }

    private static void repetitionFromTo() {
        Due.sentence("e{m,n} when k times e one behind the other does, for some k with m <= k <= n");
        dueSpan("^a{2,4}$", "a", NO_HIT);
        dueSpan("^a{2,4}$", "aa", "0-2");
        dueSpan("^a{2,4}$", "aaa", "0-3");
        dueSpan("^a{2,4}$", "aaaa", "0-4");
        dueSpan("^a{2,4}$", "aaaaa", NO_HIT);
        dueSpan("a{2,4}", "aaaaa", "0-4");
        dueSpan("(ab){1,2}", "abababab", "0-4");
        dueSpan("a{8,9}", "a".repeat(10), "0-9");
        dueSpan("a{8,9}", "a".repeat(7), NO_HIT);
        dueSpan("^(a|bb){2,3}$", "abba", "0-4");
        dueSpan("^(a|bb){2,3}$", "abbaa", NO_HIT);
    }

    private static void repetitionOfEqual() {
        Due.sentence("m alone means that n is m");
        dueSpan("^a{2}$", "a", NO_HIT);
        dueSpan("^a{2}$", "aa", "0-2");
        dueSpan("^a{2}$", "aaa", NO_HIT);
        dueSpan("^a{2,2}$", "a", NO_HIT);
        dueSpan("^a{2,2}$", "aa", "0-2");
        dueSpan("^a{2,2}$", "aaa", NO_HIT);
        dueSpan("a{1}", "aa", "0-1");
        dueSpan("^.{9}$", "a".repeat(9), "0-9");
        dueSpan("^.{9}$", "a".repeat(8), NO_HIT);
        dueSpan("^.{9}$", "a".repeat(10), NO_HIT);
    }

    private static void repetitionOfNone() {
        Due.sentence("(none of e matches from i to i)");
        for (String none : new String[] {"a{0}", "a{0,0}"}) {
            dueSpan(none, "aaa", "0-0");
            dueSpan("b" + none + "c", "bc", "0-2");
            dueSpan("b" + none + "c", "bac", NO_HIT);
            dueSpan("^" + none + "$", "", "0-0");
        }
        for (String some : new String[] {"a{0,1}", "a?"}) {
            dueSpan("b" + some + "c", "bc", "0-2");
            dueSpan("b" + some + "c", "bac", "0-3");
            dueSpan("b" + some + "c", "baac", NO_HIT);
        }
        dueSpan("a{0,2}", "baa", "0-0");
        dueSpan("[^ -~]{0}b", "ab", "1-2");
        dueSpan("[^ -~]*b", "ab", "1-2");
    }

    private static void repetitionWithoutEnd() {
        Due.sentence("e{m,} for some k >= m");
        for (String any : new String[] {"a*", "a{0,}"}) {
            dueSpan("b" + any + "c", "bc", "0-2");
            dueSpan("b" + any + "c", "bac", "0-3");
            dueSpan("b" + any + "c", "b" + "a".repeat(38) + "c", "0-40");
        }
        for (String some : new String[] {"a+", "a{1,}"}) {
            dueSpan("b" + some + "c", "bc", NO_HIT);
            dueSpan("b" + some + "c", "bac", "0-3");
            dueSpan("b" + some + "c", "b" + "a".repeat(38) + "c", "0-40");
        }
        dueSpan("a{3,}", "aab", NO_HIT);
        dueSpan("a{3,}", "baaa", "1-4");
        dueSpan("a{3,}", "baaaa", "1-5");
        dueSpan("a{9,}", "a".repeat(8), NO_HIT);
        dueSpan("a{9,}", "a".repeat(40), "0-40");
        dueSpan("(ab)+", "ababa", "0-4");
    }

    private static void repetitionOfEmpty() {
        Due.sentence("k times e one behind the other: when e matches from i to i");
        dueSpan("(^)*a", "ba", "1-2");
        dueSpan("(^)+a", "ba", NO_HIT);
        dueSpan("(^)+a", "ab", "0-1");
        dueSpan("(a|^){2}b", "ab", "0-2");
        dueSpan("(a|^){3}b", "aab", "0-3");
        dueSpan("^(a|^){3}b", "aaab", "0-4");
        dueSpan("^(a|^){3}b", "aaaab", NO_HIT);
        dueSpan("(b|$){3,}", "ab", "1-2");
        dueSpan("(a*){2}", "aa", "0-2");
        dueSpan("(a?){2,3}b", "aaaab", "1-5");
        dueSpan("(a*)*b", "aab", "0-3");
        dueSpan("(a*|b)*c", "abbac", "0-5");
    }

    private static void repetitionOfRepetition() {
        Due.sentence("the latest piece e gives place to a repetition: also when it is one");
        dueSpan("^a{2}{3}$", "a".repeat(6), "0-6");
        dueSpan("^a{2}{3}$", "a".repeat(5), NO_HIT);
        dueSpan("^a{2}*$", "aaaa", "0-4");
        dueSpan("^a{2}*$", "aaa", NO_HIT);
        dueSpan("^a{2,3}{2}$", "aaaaaa", "0-6");
        dueSpan("^a{2,3}{2}$", "aaa", NO_HIT);
        dueSpan("^a+?$", "", "0-0");
        dueSpan("^ab*$", "abb", "0-3");
        dueSpan("^ab*$", "abab", NO_HIT);
        dueSpan("^(ab)*$", "abab", "0-4");
    }

    private static void leastStart() {
        Due.sentence("the SPAN is from the least i from which it matches");
        dueSpan("b|.*c", "abc", "0-3");
        dueSpan("bbb|a", "abbb", "0-1");
        dueSpan("a*", "baa", "0-0");
        dueSpan("a+", "baaab", "1-4");
        for (int at = 0; at < 40; at++) {
            dueSpan("a", "b".repeat(at) + "a".repeat(40 - at), at + "-" + (at + 1));
            dueSpan("b$", "a".repeat(at) + "b", at + "-" + (at + 1));
        }
        dueSpan("$", "a".repeat(40), "40-40");
    }

    private static void greatestEnd() {
        Due.sentence("to the greatest j to which it matches from there");
        dueSpan("a|ab|abc", "xabcd", "1-4");
        dueSpan("abc|ab|a", "xabd", "1-3");
        dueSpan("a|a*", "aaab", "0-3");
        dueSpan("a?", "aa", "0-1");
        dueSpan("(a|ab)c?", "abcd", "0-3");
        for (int length = 0; length <= 40; length++) {
            dueSpan("a*", "a".repeat(length), "0-" + length);
        }
    }

    private static void longestLine() {
        Due.sentence("A text has at most 40 characters: in a line of 40");
        String line = "a".repeat(39) + "b";
        dueSpan(".*", line, "0-40");
        dueSpan("b", line, "39-40");
        dueSpan("b$", line, "39-40");
        dueSpan("$", line, "40-40");
        dueSpan(".*b", line, "0-40");
        dueSpan("^.*$", line, "0-40");
        dueSpan("^(.{9}.){2}.*$", line, "0-40");
        dueSpan("^a+b$", line, "0-40");
    }

    private static void lateLine() {
        Due.sentence("MATCHING, from place i to place j of a line: wherever the line begins in its text");
        for (int start = 1; start < 40; start++) {
            int last = 39 - start;
            Tested x = new Tested().text(0, "b".repeat(start - 1) + "\n" + "b".repeat(last) + "a");
            x.search("a");
            Due.is("a behind the newline at " + (start - 1), x.hits(), "0/1/" + last + "-" + (last + 1));
            x.search("b*a$");
            Due.is("b*a$ behind the newline at " + (start - 1), x.hits(), "0/1/0-" + (last + 1));
            x.search("^b*$");
            Due.is("^b*$ before the newline at " + (start - 1), x.hits(), "0/0/0-" + (start - 1));
        }
    }

    /** They must neither be wrong nor take for ever. */
    private static void nested() {
        Due.sentence("Repetitions inside repetitions");
        String many = "a".repeat(39) + "b";
        dueSpan("a" + "*".repeat(23), many, "0-39");
        dueSpan("a" + "+".repeat(22) + "b", many, "0-40");
        dueSpan("a" + "?".repeat(22) + "b", many, "38-40");
        dueSpan("((((((a*)*)*)*)*)*)*c", many, NO_HIT);
        dueSpan("((((((a+)+)*b?)*)+)*c?)*", many, "0-40");
        dueSpan("((((.*a)*.)*a)*.)*$", many, "0-40");
        dueSpan("(aa)*(aaa)*b", "x" + many.substring(2), "1-39");
        dueSpan("((aa)+|(aaa)+)+$", "ba", NO_HIT);
        dueSpan("(a?){3}{4}", many, "0-12");
    }

    private static void hitsOfSearch() {
        Due.sentence("each line of these in which it matches is a HIT. Answers the number of hits");
        Tested x = new Tested().text(9, "abc\nxabc\n\nab").text(2, "ab\ncab").text(5, "");
        Due.is("hits of ab", x.search("ab"), 5);
        Due.is("they are", x.hits(), "2/0/0-2 2/1/1-3 9/0/0-2 9/1/1-3 9/3/0-2");
        Due.is("hits of abc", x.search("abc"), 2);
        Due.is("hits of ^$", x.search("^$"), 2);
        Due.is("they are", x.hits(), "5/0/0-0 9/2/0-0");
        Tested twice = new Tested().text(0, "ababab");
        Due.is("hits in a line that matches thrice", twice.search("ab"), 1);
    }

    private static void noHits() {
        Due.sentence("Answers the number of hits: when there is none");
        Tested none = new Tested();
        Due.is("without a version", none.search("a*"), 0);
        Due.is("hit", none.hit(0), -1);
        Due.is("possible", none.possible(), 0);
        Tested x = new Tested().text(0, "ab");
        Due.is("with a version", x.search("c"), 0);
        Due.is("hit", x.hit(0), -1);
        Due.is("possible", x.possible(), 1);
    }

    private static void mostHits() {
        Due.sentence("Answers the number of hits: the most");
        Tested x = new Tested();
        for (int name = 0; name < 10; name++) {
            x.text(name, "\n".repeat(40));
        }
        Due.is("of ^", x.search("^"), 410);
        for (int name = 0; name < 10; name++) {
            Due.is("first of " + name, x.hit(name * 41), name * 16777216);
            Due.is("last of " + name, x.hit(name * 41 + 40), name * 16777216 + 40 * 65536);
        }
        Due.is("behind the last", x.hit(410), -1);
        Due.is("again", x.search(), 410);
        Due.is("the last then", x.hit(409), 9 * 16777216 + 40 * 65536);
        Due.is("behind it then", x.hit(410), -1);
    }

    private static void onlyLive() {
        Due.sentence("Searches all live versions");
        Tested x = new Tested().text(0, "abc").text(1, "abc").text(2, "abc").text(1, "x").drops(2);
        x.search("abc");
        Due.is("hits", x.hits(), "0/0/0-3");
        x.text(2, "abc");
        x.compact();
        x.search();
        Due.is("hits behind merging", x.hits(), "0/0/0-3 2/0/0-3");
    }

    private static void onlyPossible() {
        Due.sentence("that are possible for the pattern");
        Tested x = new Tested().text(0, "abc").text(1, "ab\nc").text(2, "abd");
        x.search("abc|[^ -~]");
        Due.is("hits", x.hits(), "0/0/0-3");
        Due.is("possible", x.possible(), 1);
    }

    private static void searchOfFaulty() {
        Due.sentence("when the pattern has a fault, refused, minus the fault");
        for (int k = 0; k < Tested.FAULTY.length; k++) {
            Tested x = new Tested().text(0, "abc");
            Due.is("search of " + Tested.FAULTY[k], x.search(Tested.FAULTY[k]), -1 - k);
            Due.is("hit then", x.hit(0), -1);
            Due.is("possible then", x.possible(), 0);
        }
    }

    private static void hitOrder() {
        Due.sentence("in the order of the names and for one name of the lines");
        Tested x = new Tested().text(9, "a").text(0, "a\nb\na").text(4, "\na").text(3, "a");
        x.search("a");
        Due.is("hits", x.hits(), "0/0/0-1 0/2/0-1 3/0/0-1 4/1/0-1 9/0/0-1");
    }

    private static void hitNumber() {
        Due.sentence("name * 16777216 + line * 65536 + i * 256 + j with the span from i to j");
        Tested x = new Tested().text(9, "\n\nxxab").text(0, "ab");
        Due.is("search", x.search("ab"), 2);
        Due.is("hit 0", x.hit(0), 2);
        Due.is("hit 1", x.hit(1), 9 * 16777216 + 2 * 65536 + 2 * 256 + 4);
        int[] none = {-1, 2, 3, 410, MIN, MAX, 256, 65536};
        for (int k : none) {
            Due.is("hit " + k, x.hit(k), -1);
        }
        Tested last = new Tested().text(9, "a".repeat(40));
        last.search("$");
        Due.is("at the last place", last.hit(0), 9 * 16777216 + 40 * 256 + 40);
        Tested lines = new Tested().text(9, "\n".repeat(39) + "a");
        lines.search("a");
        Due.is("in line 39", lines.hit(0), 9 * 16777216 + 39 * 65536 + 1);
    }

    private static void hitIsAsFound() {
        Due.sentence("as it was found then");
        Tested x = new Tested().text(0, "ab\nb").text(7, "xxb");
        x.search("b");
        String found = "0/0/1-2 0/1/0-1 7/0/2-3";
        Due.is("then", x.hits(), found);
        x.drops(0);
        Due.is("behind a drop", x.hits(), found);
        x.text(7, "q");
        Due.is("behind a put", x.hits(), found);
        x.compact();
        Due.is("behind a compact", x.hits(), found);
        x.pattern("q");
        Due.is("with another pattern", x.hits(), found);
        Due.is("possible of that search", x.possible(), 1 + 128);
        Due.is("search again", x.search(), 1);
        Due.is("behind another search", x.hits(), "7/0/0-1");
    }

    private static void hitOfLatest() {
        Due.sentence("Hit k (0 ..) of the latest search that was not refused");
        Tested x = new Tested().text(0, "a\nb\nab");
        Due.is("of a", x.search("a"), 2);
        Due.is("refused", x.search("a("), -2);
        Due.is("hits behind the refused one", x.hits(), "0/0/0-1 0/2/0-1");
        Due.is("of ab", x.search("ab"), 1);
        Due.is("hits of the latest", x.hits(), "0/2/0-2");
        Due.is("no hit of an earlier one", x.hit(1), -1);
        Due.is("of c", x.search("c"), 0);
        Due.is("hits of none", x.hits(), "");
    }

    private static void hitWithoutSearch() {
        Due.sentence("NONE when there was no search or it has no such hit");
        Tested x = new Tested().text(0, "a").typed("a");
        Due.is("without a search", x.hit(0), -1);
        x.typed("(");
        x.search();
        Due.is("behind a refused one alone", x.hit(0), -1);
        x.back();
        x.search();
        Due.is("behind one", x.hit(0), 1);
        Due.is("hit -1", x.hit(-1), -1);
        Due.is("hit 1", x.hit(1), -1);
    }
}
