/** POSSIBLE TEXTS of the terms, and promises 10 and 12. */
public final class PossibleTest {
    private static final int UNKNOWN = -1;
    private static final int FAULTY = -2;

    public static void main(String[] args) {
        setsOfFour();
        emptySet();
        largerSet();
        anchors();
        joins();
        fourStrings();
        differentStrings();
        twelveCharacters();
        allowsShort();
        allowsAllTrigrams();
        allowsOneString();
        allowsNone();
        branchBeginsAnew();
        branchBeginsAnewWithLength();
        branchWithUnknown();
        branchWithUnknownThatMustBePossible();
        branchOfUnknownStrings();
        branchAtItsEnd();
        groupsKnown();
        groupsUnknown();
        repetitionOfNone();
        repetitionOfEqual();
        repetitionOfEqualUnknown();
        repetitionFromNone();
        repetitionFromOne();
        stringsOfFaulty();
        possibleSum();
        possibleOfLatest();
        possibleOfLive();
        Due.end();
    }

    private static void dueStrings(String pattern, int want) {
        Due.is("strings of " + pattern, new Tested().typed(pattern).strings(), want);
    }

    private static void duePossible(String pattern, String text, boolean want) {
        Tested x = new Tested().text(0, text);
        Due.is("whether " + pattern + " has a fault", x.search(pattern) < 0, false);
        Due.is("whether " + text + " is possible for " + pattern, x.possible() == 1, want);
    }

    private static void setsOfFour() {
        Due.sentence("a set with at most four characters: STRINGS are these characters, one each");
        dueStrings("a", 1);
        dueStrings("\\.", 1);
        dueStrings("[ab]", 2);
        dueStrings("[a-c]", 3);
        dueStrings("[a-d]", 4);
        dueStrings("[a-e]", UNKNOWN);
        dueStrings("[aaaaa]", 1);
        dueStrings("[a-ba-ba-b]", 2);
        dueStrings("[^!-~]", 1);
        dueStrings("[^$-~]", 4);
        dueStrings("[^%-~]", UNKNOWN);
        dueStrings("[^ -z]", 4);
        dueStrings("[^ -y]", UNKNOWN);
        dueStrings("[>-A]", 4);
        dueStrings("[=-A]", UNKNOWN);
        duePossible("xy[a-d]", "xyd", true);
        duePossible("xy[a-d]", "xye", false);
    }

    private static void emptySet() {
        Due.sentence("(none when the set is empty)");
        dueStrings("[^ -~]", 0);
        dueStrings("[^ -}]", 1);
        dueStrings("a[^ -~]", 0);
        dueStrings("[^ -~]a", 0);
        dueStrings("[^ -~]|a", 1);
        dueStrings("[^ -~]{0}", 1);
        dueStrings("[^ -~]{2}", 0);
        dueStrings("([^ -~]|[^ -~])", 0);
        duePossible("[^ -~]", "abc", false);
        duePossible("[^ -~]", "", false);
        duePossible("[^ -}]", "", true);
    }

    private static void largerSet() {
        Due.sentence("a larger set: UNKNOWN, every text is possible");
        dueStrings(".", UNKNOWN);
        dueStrings("[a-z]", UNKNOWN);
        duePossible(".", "", true);
        duePossible("[a-e]", "", true);
        duePossible("[a-e]", "xyz", true);
        duePossible("[a-e]...", "", true);
    }

    private static void anchors() {
        Due.sentence("An anchor: STRINGS is the list of the empty string alone.");
        dueStrings("^", 1);
        dueStrings("$", 1);
        dueStrings("^|$", 1);
        dueStrings("a|^", 2);
        dueStrings("^ab$", 1);
        duePossible("^", "", true);
        duePossible("^abc$", "xabcx", true);
        duePossible("a^b$c", "ab", false);
        duePossible("a^b$c", "abc", true);
    }

    private static void joins() {
        Due.sentence("The JOIN of two lists has all strings that are one of the first with one of the second behind "
                + "it.");
        dueStrings("[ab][cd]", 4);
        for (String text : new String[] {"xac", "xad", "xbc", "xbd"}) {
            duePossible("x[ab][cd]", text, true);
        }
        for (String text : new String[] {"xca", "xab", "xcd", "acx", "xa", "xaxc"}) {
            duePossible("x[ab][cd]", text, false);
        }
        dueStrings("(a|bc)(d|ef)", 4);
        duePossible("(a|bc)(de|fgh)", "bcd cde", true);
        duePossible("(a|bc)(de|fgh)", "ade", true);
        duePossible("(a|bc)(de|fgh)", "afg fgh", true);
        duePossible("(a|bc)(de|fgh)", "fgh bcd", false);
    }

    private static void fourStrings() {
        Due.sentence("A list FITS when it has at most four different strings");
        dueStrings("[ab][cd]", 4);
        dueStrings("[ab][cde]", UNKNOWN);
        dueStrings("[a-d]e", 4);
        dueStrings("[a-d][ef]", UNKNOWN);
        dueStrings("a|b|c|d", 4);
        dueStrings("a|b|c|d|e", UNKNOWN);
        dueStrings("(ab|c|de|f)", 4);
        dueStrings("(ab|c|de|f|gh)", UNKNOWN);
        dueStrings("[ab][cd][ef]", UNKNOWN);
    }

    private static void differentStrings() {
        Due.sentence("at most four different strings: the same one is counted once");
        dueStrings("a|a", 1);
        dueStrings("ab|ab|c|c", 2);
        dueStrings("abc|abc|ab|ab|a|a", 3);
        dueStrings("a|b|c|d|a|b", 4);
        dueStrings("a|b|c|d|a|e", UNKNOWN);
        dueStrings("(a|aa)(a|aa)", 3);
        dueStrings("(a|aa)(a|aa|aaa)", 4);
        dueStrings("(a|aa)(a|aa|aaa|aaaa)", UNKNOWN);
        dueStrings("(a|aa){3}", 4);
        dueStrings("(a|aa){4}", UNKNOWN);
        dueStrings("(ab|a)(c|bc)", 3);
        dueStrings("ab|ba", 2);
        dueStrings("a|ab", 2);
        dueStrings("abc|abd", 2);
    }

    private static void twelveCharacters() {
        Due.sentence("A list FITS when it has [..] none longer than 12.");
        dueStrings("abcdefghijk", 1);
        dueStrings("abcdefghijkl", 1);
        dueStrings("abcdefghijklm", UNKNOWN);
        dueStrings("(abcdef){2}", 1);
        dueStrings("(abcdef){2}$", 1);
        dueStrings("(abcdef){2}a", UNKNOWN);
        dueStrings("a{9}aaa", 1);
        dueStrings("a{9}aaaa", UNKNOWN);
        dueStrings("(abcdef|a){2}", 4);
        dueStrings("(abcdef|a)(bcdefgh|b)", UNKNOWN);
        dueStrings("(abcdef|a)(bcdefg|b)", 4);
        dueStrings("[^ -~]abcdefghijklm", 0);
        dueStrings("abcdefghijklm[^ -~]", UNKNOWN);
        dueStrings("abcdefghijkl|abcdefghij", 2);
    }

    private static void allowsShort() {
        Due.sentence("a string all of whose trigrams the text has: one of less than three characters has none");
        duePossible("a", "", true);
        duePossible("ab", "", true);
        duePossible("ab", "xyz", true);
        duePossible("abc", "", false);
        duePossible("abc", "ab", false);
        duePossible("abc", "abc", true);
        duePossible("^ab$", "", true);
    }

    private static void allowsAllTrigrams() {
        Due.sentence("a string all of whose trigrams the text has");
        duePossible("abcd", "abcd", true);
        duePossible("abcd", "bcd abc", true);
        duePossible("abcd", "abc", false);
        duePossible("abcd", "bcd", false);
        duePossible("abcd", "abc bc d", false);
        duePossible("abcde", "abc bcd cde", true);
        duePossible("abcde", "abcd de", false);
        duePossible("abcde", "abc cde", false);
        duePossible("abcde", "bcde", false);
        duePossible("abc", "ab\nc", false);
        duePossible("abcd", "abc\nbcd", true);
        duePossible("abcdefghijkl", "abcdefghijkl", true);
        duePossible("abcdefghijkl", "abcdefghijk jkl", true);
        duePossible("abcdefghijkl", "abcdefghijk kl", false);
    }

    private static void allowsOneString() {
        Due.sentence("A text ALLOWS a list when the list has a string [..]");
        duePossible("abc|xyz", "abc", true);
        duePossible("abc|xyz", "xyz", true);
        duePossible("abc|xyz", "abz", false);
        duePossible("abcd|wxyz", "abc xyz", false);
        duePossible("abc|def|ghi|jkl", "jkl", true);
        duePossible("abc|def|ghi|jkl", "jk", false);
        duePossible("abc|de", "", true);
    }

    private static void allowsNone() {
        Due.sentence("A text ALLOWS a list when the list has a string: when it has none");
        duePossible("[^ -~].", "abc", false);
        duePossible(".[^ -~]", "abc", false);
        duePossible("[^ -~]a", "abc", false);
        duePossible("(.|[^ -~])", "", true);
        duePossible("[^ -~]+", "abc", false);
        duePossible("[^ -~]*", "abc", true);
        duePossible("[^ -~]{0}", "", true);
        duePossible("[^ -~]|abc", "ab", false);
        duePossible("[^ -~]|ab", "", true);
    }

    private static void branchBeginsAnew() {
        Due.sentence("Otherwise the text must allow C; then, when STRINGS(piece) is not UNKNOWN, C becomes "
                + "STRINGS(piece)");
        // Behind [ab]x[cd] the piece [ef] does not fit, so ye, yf and what follows are a new list.
        duePossible("[ab]x[cd][ef]yz", "axc fyz", true);
        duePossible("[ab]x[cd][ef]yz", "axc eyz", true);
        duePossible("[ab]x[cd][ef]yz", "axc", false);
        duePossible("[ab]x[cd][ef]yz", "eyz", false);
        duePossible("[ab]x[cd][ef]yz", "axc yz", false);
        duePossible("[ab]x[cd][ef]yz", "cey axc eyz", true);
        dueStrings("[ab]x[cd][ef]yz", UNKNOWN);
        duePossible("[ab][cd][ef]", "", true);
    }

    private static void branchBeginsAnewWithLength() {
        Due.sentence("C becomes STRINGS(piece): behind the twelfth character");
        duePossible("abcdefghijkl", "abcdefghijk", false);
        duePossible("abcdefghijklm", "abcdefghijkl", true);
        duePossible("abcdefghijklmn", "abcdefghijkl", true);
        duePossible("abcdefghijklmno", "abcdefghijkl", false);
        duePossible("abcdefghijklmno", "abcdefghijkl mno", true);
        duePossible("abcdefghijklmno", "abcdefghijk mno", false);
        duePossible("abcdefghijkl(mno)", "abcdefghijkl", false);
        duePossible("abcdefghijk(lmno)", "abcdefghijk lmno", true);
    }

    private static void branchWithUnknown() {
        Due.sentence("when it is, the text must be possible for the piece, and C becomes the empty string alone");
        duePossible("abc.xyz", "abc", false);
        duePossible("abc.xyz", "xyz", false);
        duePossible("abc.xyz", "xyzabc", true);
        duePossible("ab.cd", "", true);
        duePossible("ab.c", "", true);
        duePossible("abc.", "ab", false);
        duePossible("abc.", "abc", true);
        duePossible(".abc", "ab", false);
        duePossible(".abc", "abc", true);
        duePossible("ab.*c", "", true);
    }

    private static void branchWithUnknownThatMustBePossible() {
        Due.sentence("when it is, the text must be possible for the piece");
        duePossible("(abc|def.)g", "q", false);
        duePossible("(abc|def.)g", "def", true);
        duePossible("(abc|def.)g", "abc", true);
        duePossible("(abc|d.)e", "q", true);
        duePossible("a(bcd)+", "bc", false);
        duePossible("a(bcd)+", "bcd", true);
        duePossible("a(bcd)*", "", true);
    }

    private static void branchOfUnknownStrings() {
        Due.sentence("STRINGS(branch) is C when all pieces were joined, else UNKNOWN.");
        dueStrings("a.", UNKNOWN);
        dueStrings(".a", UNKNOWN);
        dueStrings("ab*c", UNKNOWN);
        dueStrings("abc", 1);
        dueStrings("[ab][cd][ef]", UNKNOWN);
        dueStrings("[^ -~].", UNKNOWN);
        dueStrings("a{0}b", 1);
    }

    private static void branchAtItsEnd() {
        Due.sentence("After the last piece the text must allow C.");
        duePossible(".abc", "abc", true);
        duePossible(".abc", "", false);
        duePossible(".ab", "", true);
        duePossible("abc.def|.", "", true);
        duePossible("a*xyz", "xy", false);
        duePossible("a*xyz", "xyz", true);
    }

    private static void groupsKnown() {
        Due.sentence("STRINGS has the strings of all its branches when all are known and that list fits");
        dueStrings("(a|b)c", 2);
        dueStrings("(ab|cd)e{4}", 2);
        dueStrings("((a|b)|(c|d))", 4);
        dueStrings("[ab]|[bc]|[cd]", 4);
        dueStrings("[ab]|[bc]|[cde]", UNKNOWN);
        duePossible("(abc|x)yz", "xyz", true);
        duePossible("(abc|x)yz", "abc bcy cyz", true);
        duePossible("(abc|x)yz", "abc", false);
    }

    private static void groupsUnknown() {
        Due.sentence("else it is UNKNOWN, and a text is possible when it is possible for one of the branches");
        dueStrings("a|.", UNKNOWN);
        dueStrings(".|a", UNKNOWN);
        dueStrings("(a|b*)", UNKNOWN);
        duePossible("abc|x.", "", true);
        duePossible("abc|xyz.", "q", false);
        duePossible("abc|xyz.", "xyz", true);
        duePossible("abc|xyz.", "abc", true);
        duePossible("abc|xyz|[ab][ab][ab]", "q", true);
        duePossible("abc|bcd|cde|def|efg", "efg", true);
        duePossible("abc|bcd|cde|def|efg", "abc", true);
        duePossible("abc|bcd|cde|def|efg", "fgh", false);
        duePossible("(abc|xyz.)def", "abc cde", false);
        duePossible("(abc|xyz.)def", "abc def", true);
    }

    private static void repetitionOfNone() {
        Due.sentence("(with m = 0: STRINGS is the list of the empty string alone)");
        for (String none : new String[] {"a{0}", "a{0,0}", ".{0}", "(a|b*){0}", "(abc){0}", "a{9}{9}{0}", "a*{0}"}) {
            dueStrings(none, 1);
            duePossible(none, "", true);
        }
        duePossible("ab(xyz){0}c", "abc", true);
        duePossible("ab(xyz){0}c", "ab", false);
        duePossible("ab.{0}c", "ab", false);
        duePossible("ab.{1}c", "ab", true);
    }

    private static void repetitionOfEqual() {
        Due.sentence("a repetition with m = n: as a branch of m pieces e");
        dueStrings("a{1}", 1);
        dueStrings("a{1,1}", 1);
        dueStrings("a{9}", 1);
        dueStrings("a{9,9}", 1);
        dueStrings("[ab]{1}", 2);
        dueStrings("[ab]{2}", 4);
        dueStrings("[ab]{2,2}", 4);
        dueStrings("[ab]{3}", UNKNOWN);
        dueStrings("(abcd){3}", 1);
        dueStrings("(abcd){4}", UNKNOWN);
        dueStrings("a{2}{2}", 1);
        duePossible("a{2}", "", true);
        duePossible("a{3}", "aa", false);
        duePossible("a{3}", "aaa", true);
        duePossible("(abc){2}", "abc", false);
        duePossible("(abc){2}", "abc bca", false);
        duePossible("(abc){2}", "cabca", true);
        duePossible("x{1}yz", "yz", false);
        duePossible("x{1}yz", "xyz", true);
    }

    private static void repetitionOfEqualUnknown() {
        Due.sentence("as a branch of m pieces e: when that is UNKNOWN");
        dueStrings(".{1}", UNKNOWN);
        dueStrings("(a.){2}", UNKNOWN);
        duePossible("([ab]x){3}", "axaxax", true);
        duePossible("([ab]x){3}", "ax", false);
        duePossible("([ab]xy){3}", "axy xya yax", true);
        duePossible("([ab]xy){3}", "axyb", false);
        duePossible("(abc.){2}", "abc", true);
        duePossible("(abc.){2}", "ab", false);
        // The fourth copy does not fit behind three and is a list of its own.
        duePossible("(abcd){4}", "abcdabcd", true);
        duePossible("(abcd){4}", "abcd", false);
        duePossible("(abcde){3}", "abcde bcdea cdeab deabc eabcd", true);
        duePossible("(abcde){3}", "abcde", false);
    }

    private static void repetitionFromNone() {
        Due.sentence("Any other one: UNKNOWN; with m = 0 every text is possible");
        for (String any : new String[] {"(abc)?", "(abc)*", "(abc){0,1}", "(abc){0,}", "(abc){0,9}"}) {
            dueStrings(any, UNKNOWN);
            duePossible(any, "", true);
            duePossible("x" + any + "y", "xy", true);
        }
        duePossible("ab(x)?cd", "", true);
        duePossible("abc(x)?", "", false);
    }

    private static void repetitionFromOne() {
        Due.sentence("else those are that are possible for a branch of m pieces e");
        for (String some : new String[] {"(abc)+", "(abc){1,}", "(abc){1,2}", "(abc){1,9}"}) {
            dueStrings(some, UNKNOWN);
            duePossible(some, "ab", false);
            duePossible(some, "abc", true);
        }
        for (String some : new String[] {"(abc){2,}", "(abc){2,3}"}) {
            dueStrings(some, UNKNOWN);
            duePossible(some, "abc", false);
            duePossible(some, "abc bca", false);
            duePossible(some, "abcabc", true);
            duePossible(some, "bcab abc", true);
        }
        duePossible("a{2,}", "", true);
        duePossible("a{3,}", "", false);
        duePossible("a{1,2}bc", "bc", true);
        duePossible("(abc.)+", "ab", false);
        duePossible("(abc.)+", "abc", true);
    }

    private static void stringsOfFaulty() {
        Due.sentence("NONE when that is UNKNOWN; -2 when the pattern has a fault");
        for (String faulty : Tested.FAULTY) {
            dueStrings(faulty, FAULTY);
        }
        Tested x = new Tested().typed("ab.");
        Due.is("of ab.", x.strings(), UNKNOWN);
        x.back();
        Due.is("of ab", x.strings(), 1);
        x.type('|');
        Due.is("of ab|", x.strings(), FAULTY);
        x.type('c');
        Due.is("of ab|c", x.strings(), 2);
    }

    private static void possibleSum() {
        Due.sentence("The sum of 1 << name over the names whose live versions were possible");
        for (int name = 0; name <= 9; name++) {
            Tested x = new Tested().text(name, "abc");
            x.search("abc");
            Due.is("name " + name, x.possible(), 1 << name);
        }
        Tested all = new Tested().puts(0, 1, 2, 3, 4, 5, 6, 7, 8, 9);
        all.search("a");
        Due.is("all names", all.possible(), 1023);
        Tested some = new Tested().text(0, "abc").text(4, "ab\nc").text(9, "xabcx");
        Due.is("hits", some.search("^abc$"), 1);
        Due.is("possible, with a hit or without", some.possible(), 1 + 512);
    }

    private static void possibleOfLatest() {
        Due.sentence("in the latest search that was not refused; 0 when there was none");
        Tested x = new Tested().text(0, "abc").text(3, "xyz").typed("abc");
        Due.is("without a search", x.possible(), 0);
        Due.is("a refused search", x.search("abc("), -2);
        Due.is("behind a refused search alone", x.possible(), 0);
        x.back();
        x.search();
        Due.is("behind a search", x.possible(), 1);
        x.pattern("xyz");
        Due.is("with another pattern", x.possible(), 1);
        x.search();
        Due.is("behind another search", x.possible(), 8);
        x.search("xyz)");
        Due.is("behind a refused one", x.possible(), 8);
        x.search("abd");
        Due.is("when none is possible", x.possible(), 0);
    }

    private static void possibleOfLive() {
        Due.sentence("the names whose live versions were possible");
        Tested x = new Tested().text(0, "abc").text(1, "abc").text(1, "x").text(2, "abc").drops(2);
        x.search("abc");
        Due.is("of the live", x.possible(), 1);
        x.drops(0);
        Due.is("as they were then", x.possible(), 1);
        x.search();
        Due.is("when it is not live", x.possible(), 0);
        x.text(0, "abc");
        Due.is("before the next search", x.possible(), 0);
    }
}
