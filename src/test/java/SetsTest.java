/** Which characters a SET has: the sentences about sets in the reading of a pattern. */
public final class SetsTest {
    private static final String DIGITS = "0123456789";
    private static final String CAPITALS = "ABCDEFGHIJKLMNOPQRSTUVWXYZ";
    private static final String SMALL = "abcdefghijklmnopqrstuvwxyz";

    public static void main(String[] args) {
        dot();
        itself();
        escaped();
        listed();
        notListed();
        closingBracketFirst();
        classes();
        ranges();
        rangeEnds();
        hyphens();
        everyRangeEnd();
        openingBrackets();
        emptyAndFull();
        newline();
        Due.end();
    }

    private static String printed(int first, int last) {
        StringBuilder all = new StringBuilder();
        for (int c = first; c <= last; c++) {
            all.append((char) c);
        }
        return all.toString();
    }

    private static String without(String some) {
        StringBuilder rest = new StringBuilder();
        for (char c = 32; c <= 126; c++) {
            if (some.indexOf(c) < 0) {
                rest.append(c);
            }
        }
        return rest.toString();
    }

    /** Each of the characters once, as the hits of a search come. */
    private static String inOrder(String some) {
        return without(without(some));
    }

    /** Each character 32 .. 126 on a line of its own, 20 lines under a name. */
    private static Tested everyCharacter() {
        Tested x = new Tested();
        for (int name = 0; name < 5; name++) {
            StringBuilder text = new StringBuilder();
            for (int line = 0; line < 20 && 32 + name * 20 + line <= 126; line++) {
                text.append(line == 0 ? "" : "\n").append((char) (32 + name * 20 + line));
            }
            x.text(name, text.toString());
        }
        return x;
    }

    private static void dueMembers(String pattern, String members) {
        Tested x = everyCharacter().typed(pattern);
        int count = x.search();
        StringBuilder seen = new StringBuilder();
        for (int k = 0; k < count; k++) {
            int hit = x.hit(k);
            seen.append((char) (32 + hit / 16777216 * 20 + hit / 65536 % 256));
            Due.is("span in hit " + k + " of " + pattern, hit % 65536, 1);
        }
        Due.is("members of " + pattern, seen.toString(), members);
    }

    private static void dot() {
        Due.sentence("A dot is the set of all characters 32 .. 126.");
        dueMembers(".", printed(32, 126));
        dueMembers("\\.", ".");
        dueMembers("[.]", ".");
    }

    private static void itself() {
        Due.sentence("Each other character but [ is a set of itself.");
        for (char c = 32; c <= 126; c++) {
            if ("^.[$()|*+?{\\".indexOf(c) < 0) {
                dueMembers("" + c, "" + c);
            }
        }
    }

    private static void escaped() {
        Due.sentence("\\ [..] is then a set of that character");
        for (char c : "^.[$()|*+?{\\".toCharArray()) {
            dueMembers("\\" + c, "" + c);
        }
    }

    private static void listed() {
        Due.sentence("Any other item is a character x, which it lists");
        dueMembers("[a]", "a");
        dueMembers("[cab]", "abc");
        dueMembers("[aaa]", "a");
        dueMembers("[ ~]", " ~");
        dueMembers("[\\.]", ".\\");
        dueMembers("[$(*+?|{})]", "$()*+?{|}");
        dueMembers("[a^]", "^a");
        dueMembers("[:alpha:]", ":ahlp");
    }

    private static void notListed() {
        Due.sentence("A ^ behind it says that the set has all characters 32 .. 126 that are not listed.");
        dueMembers("[^a]", without("a"));
        dueMembers("[^^]", without("^"));
        dueMembers("[^a^]", without("a^"));
        dueMembers("[^ ]", without(" "));
        dueMembers("[^~]", without("~"));
        dueMembers("[^?@]", without("?@"));
        dueMembers("[^a-z0-9]", without(SMALL + DIGITS));
    }

    private static void closingBracketFirst() {
        Due.sentence("until a ] that is not in the place of the first item");
        dueMembers("[]]", "]");
        dueMembers("[^]]", without("]"));
        dueMembers("[]a]", "]a");
        dueMembers("[^]a]", without("]a"));
        dueMembers("[a]|[]]", "]a");
        Tested x = new Tested().text(0, "a]").text(1, "]");
        Due.is("hits of [a]]", x.search("[a]]"), 1);
    }

    private static void classes() {
        Due.sentence("alpha:] or digit:] or lower:] or upper:] and lists the letters, the digits, the small or the "
                + "capital letters");
        dueMembers("[[:alpha:]]", CAPITALS + SMALL);
        dueMembers("[[:digit:]]", DIGITS);
        dueMembers("[[:lower:]]", SMALL);
        dueMembers("[[:upper:]]", CAPITALS);
        dueMembers("[^[:alpha:]]", without(CAPITALS + SMALL));
        dueMembers("[^[:digit:]]", without(DIGITS));
        dueMembers("[_[:digit:]a]", DIGITS + "_a");
        dueMembers("[[:digit:][:lower:]]", DIGITS + SMALL);
        dueMembers("[[:upper:][:lower:]]", CAPITALS + SMALL);
        dueMembers("[][:digit:]]", DIGITS + "]");
    }

    private static void ranges() {
        Due.sentence("and it lists all from x to y");
        dueMembers("[a-c]", "abc");
        dueMembers("[a-b]", "ab");
        dueMembers("[ -~]", printed(32, 126));
        dueMembers("[>-A]", ">?@A");
        dueMembers("[a-cb-d]", "abcd");
        dueMembers("[a-cx-z]", "abcxyz");
        dueMembers("[^!-~]", " ");
        dueMembers("[^ -}]", "~");
    }

    private static void rangeEnds() {
        Due.sentence("it is BRACKET when y is below x: but not when they are the same");
        dueMembers("[a-a]", "a");
        dueMembers("[ - ]", " ");
        dueMembers("[~-~]", "~");
        dueMembers("[^a-a]", without("a"));
        dueMembers("[---]", "-");
    }

    private static void hyphens() {
        Due.sentence("but when a - and a character y other than ] stand behind it");
        dueMembers("[-]", "-");
        dueMembers("[--]", "-");
        dueMembers("[a-]", "-a");
        dueMembers("[-a]", "-a");
        dueMembers("[^-a]", without("-a"));
        dueMembers("[--0]", "-./0");
        dueMembers("[+--]", "+,-");
        dueMembers("[a-c-e]", "-abce");
        dueMembers("[]-_]", "]^_");
        dueMembers("[]-]", "-]");
        dueMembers("[^-`]", without("-`"));
        dueMembers("[^^-`]", without("^_`"));
        dueMembers("[[:digit:]-z]", "-" + DIGITS + "z");
        dueMembers("[[:digit:]--/]", "-./" + DIGITS);
        Tested x = new Tested().text(0, "--z]").text(1, "m");
        Due.is("hits of [a-]-z]", x.search("[a-]-z]"), 1);
        Due.is("its span", x.hits(), "0/0/0-4");
    }

    private static void everyRangeEnd() {
        Due.sentence("a character y other than ]: no other one is left out, and what stands behind y is no part of "
                + "the item");
        for (int x : new int[] {' ', 'A', '['}) {
            for (int y = x; y <= 126; y++) {
                String item = (char) x + "-" + (char) y;
                if (y == ']') {
                    dueMembers("[" + item, inOrder("-" + (char) x));
                } else {
                    dueMembers("[" + item + "]", printed(x, y));
                    dueMembers("[" + item + ":]", inOrder(printed(x, y) + ":"));
                    dueMembers("[" + item + ".]", inOrder(printed(x, y) + "."));
                }
            }
        }
    }

    private static void openingBrackets() {
        Due.sentence("An item that begins with [: [..] [. or [=: but not one that begins with another character");
        dueMembers("[[]", "[");
        dueMembers("[[a]", "[a");
        dueMembers("[[-]", "-[");
        dueMembers("[[-^]", "[\\]^");
        dueMembers("[.[]", ".[");
        dueMembers("[Y-[]", "YZ[");
        dueMembers("[Y-[.]", ".YZ[");
        dueMembers("[Y-[=]", "=YZ[");
        dueMembers("[Y-[:digit:]", ":YZ[dgit");
    }

    private static void emptyAndFull() {
        Due.sentence("all characters 32 .. 126 that are not listed: none and all of them");
        dueMembers("[^ -~]", "");
        dueMembers("[^ -}~]", "");
        dueMembers("[ -}]", without("~"));
        dueMembers("[!-~]", without(" "));
    }

    private static void newline() {
        Due.sentence("all characters 32 .. 126: the newline is in no set");
        for (String pattern : new String[] {"^[^a]+$", "^.+$", "^[^a][^b]", ".."}) {
            Tested x = new Tested().text(0, "\n\n");
            Due.is("hits of " + pattern, x.search(pattern), 0);
        }
        Tested y = new Tested().text(0, "x\ny");
        y.search("[^a]*");
        Due.is("hits of [^a]*", y.hits(), "0/0/0-1 0/1/0-1");
    }
}
