/** TEXTS and VERSIONS of the terms, and promises 2 to 5. */
public final class TextsTest {
    private static final int MIN = Integer.MIN_VALUE;
    private static final int MAX = Integer.MAX_VALUE;
    /** Beside 0 .. 9, and what a narrower number would take for one of them. */
    private static final int[] NO_NAMES = {-1, 10, 11, MIN, MAX, 256, 65536, -256, MIN + 1};

    public static void main(String[] args) {
        characters();
        longestText();
        writeAppends();
        lines();
        linesAreFound();
        draftBecomesText();
        emptyDraft();
        putCounts();
        putRefusesNames();
        liveUntilAnotherIsPut();
        liveUntilDropped();
        tenLive();
        dropAnswers();
        dropOfNoName();
        length();
        lengthOfNone();
        Due.end();
    }

    private static void characters() {
        Due.sentence("Characters are the codes 32 .. 126 and the newline 10.");
        Tested x = new Tested();
        for (int code = 0; code <= 65535; code++) {
            if (code == 10 || code >= 32 && code <= 126) {
                Due.is("write of " + code, new Tested().write(code), true);
            } else {
                x = x.calls() < 500 ? x : new Tested();
                Due.is("write of " + code, x.write(code), false);
            }
        }
    }

    private static void longestText() {
        Due.sentence("false when [..] the draft has 40 characters");
        Tested x = new Tested().draft("a".repeat(39));
        Due.is("write of the 40th", x.write('b'), true);
        Due.is("write of the 41st", x.write('c'), false);
        Due.is("write of a newline as the 41st", x.write(10), false);
        Due.is("write of the 41st again", x.write('d'), false);
        x.put(0);
        Due.is("length of the longest text", x.length(0), 40);
        Due.is("hits of the 40th", x.search("b$"), 1);
        Due.is("its span", x.hits(), "0/0/39-40");
        x.draft("e".repeat(40));
        Due.is("write of the 41st behind a put", x.write('e'), false);
        Tested newlines = new Tested().draft("\n".repeat(40));
        Due.is("write behind 40 newlines", newlines.write('a'), false);
    }

    private static void writeAppends() {
        Due.sentence("Appends a character to the draft and answers true");
        Tested x = new Tested().draft("ab").draft("c d~");
        Due.is("length before it is put", x.length(0), -1);
        x.put(0);
        Due.is("hits of all in their order", x.search("^abc d~$"), 1);
    }

    private static void lines() {
        Due.sentence("with n newlines it has lines 0 .. n, some perhaps empty");
        Due.is("lines of the empty text", new Tested().text(0, "").search("^"), 1);
        Due.is("lines of a text without a newline", new Tested().text(0, "ab").search("^"), 1);
        Due.is("lines of one newline", new Tested().text(0, "\n").search("^"), 2);
        Due.is("lines with a newline at the end", new Tested().text(0, "ab\n").search("^"), 2);
        Due.is("lines with a newline at the beginning", new Tested().text(0, "\nab").search("^"), 2);
        Due.is("lines with two newlines", new Tested().text(0, "a\n\nb").search("^"), 3);
        Due.is("lines of 39 newlines", new Tested().text(0, "\n".repeat(39)).search("^"), 40);
        Due.is("lines of 40 newlines", new Tested().text(0, "\n".repeat(40)).search("^"), 41);
    }

    private static void linesAreFound() {
        Due.sentence("Its LINES are what stands between its newlines");
        Tested x = new Tested().text(3, "\nab\n\nc\n");
        x.search("^.*$");
        Due.is("all lines", x.hits(), "3/0/0-0 3/1/0-2 3/2/0-0 3/3/0-1 3/4/0-0");
        x.search("^$");
        Due.is("empty lines", x.hits(), "3/0/0-0 3/2/0-0 3/4/0-0");
        Due.is("hits over a newline", x.search("b.*c"), 0);
    }

    private static void draftBecomesText() {
        Due.sentence("The draft becomes the text under a name, as a new version; the draft is empty then.");
        Tested x = new Tested().text(0, "abc");
        Due.is("length", x.length(0), 3);
        Due.is("versions in the open shard", x.shard(-1, 1), 1);
        x.put(9);
        Due.is("length of the next text", x.length(9), 0);
        x.text(9, "d");
        Due.is("length of a third one", x.length(9), 1);
        Due.is("length of the first one", x.length(0), 3);
        x.search("^abc$|^d$");
        Due.is("hits in the texts", x.hits(), "0/0/0-3 9/0/0-1");
    }

    private static void emptyDraft() {
        Due.sentence("The draft becomes the text [..]: the empty draft, too");
        Tested x = new Tested();
        Due.is("put of the empty draft", x.put(5), 1);
        Due.is("its length", x.length(5), 0);
        Due.is("its shard", x.row(), "| 0:1:1");
        Due.is("hits in it", x.search("^$"), 1);
        Due.is("drop of it", x.drop(5), true);
        Due.is("its length then", x.length(5), -1);
    }

    private static void putCounts() {
        Due.sentence("Answers how many versions there have been so far, this one included");
        Tested x = new Tested();
        Due.is("the first", x.put(7), 1);
        Due.is("under the same name", x.put(7), 2);
        x.drop(7);
        Due.is("behind a drop", x.put(7), 3);
        Due.is("a refused one", x.put(10), -1);
        Due.is("behind a refused one", x.put(0), 4);
        x.puts(0, 0);
        x.drop(0);
        x.drop(7);
        x.compact();
        Due.is("behind merging", x.put(0), 7);
        for (int k = 8; k <= 480; k++) {
            Due.is("one of many", x.put(k % 10), k);
        }
    }

    private static void putRefusesNames() {
        Due.sentence("NONE, refused, when name is not 0 .. 9");
        Tested x = new Tested().draft("ab");
        for (int name : NO_NAMES) {
            Due.is("put of " + name, x.put(name), -1);
        }
        Due.is("shards behind them", x.row(), "| 0:0:0");
        for (int name = 0; name <= 9; name++) {
            Due.is("length of " + name, x.length(name), -1);
        }
        Due.is("put of 0", x.put(0), 1);
        Due.is("the draft outlived the refused ones", x.length(0), 2);
        for (int name = 1; name <= 9; name++) {
            Due.is("put of " + name, x.put(name), name + 1);
        }
    }

    private static void liveUntilAnotherIsPut() {
        Due.sentence("It is LIVE until another text is put under that name");
        Tested x = new Tested().text(4, "abcd");
        Due.is("live before", x.shard(-1, 2), 1);
        x.draft("xyz");
        Due.is("live while the draft is written", x.length(4), 4);
        x.put(5);
        Due.is("live with another name", x.row(), "| 0:2:2");
        x.text(4, "xyz");
        Due.is("live then", x.row(), "0:3:2 | 0:0:0");
        Due.is("length then", x.length(4), 3);
        Due.is("hits in the first", x.search("bc"), 0);
        Due.is("hits in the others", x.search("yz"), 2);
    }

    private static void liveUntilDropped() {
        Due.sentence("It is LIVE until [..] the name is dropped.");
        Tested x = new Tested().text(4, "abc").text(5, "abc");
        Due.is("hits before", x.search("abc"), 2);
        x.drops(4);
        Due.is("live then", x.row(), "| 0:2:1");
        Due.is("length then", x.length(4), -1);
        Due.is("hits then", x.search(), 1);
        Due.is("the hit that is left", x.hits(), "5/0/0-3");
        Due.is("possible then", x.possible(), 32);
        x.text(4, "abc");
        Due.is("live when it is put again", x.row(), "0:3:2 | 0:0:0");
        Due.is("hits when it is put again", x.search(), 2);
    }

    private static void tenLive() {
        Due.sentence("At most ten versions are live.");
        Tested x = new Tested().puts(0, 1, 2, 3, 4, 5, 6, 7, 8);
        Due.is("nine", x.row(), "1:6:6 0:3:3 | 0:0:0");
        Due.is("hits in nine", x.search("^"), 9);
        x.put(9);
        Due.is("ten", x.row(), "1:6:6 0:3:3 | 0:1:1");
        Due.is("hits in ten", x.search(), 10);
        x.put(9);
        Due.is("ten of eleven", x.row(), "1:6:6 0:3:3 | 0:2:1");
        Due.is("hits in ten of eleven", x.search(), 10);
    }

    private static void dropAnswers() {
        Due.sentence("Answers whether there was one.");
        Tested x = new Tested();
        for (int name = 0; name <= 9; name++) {
            Due.is("drop of " + name + " before", x.drop(name), false);
            x.put(name);
            Due.is("drop of " + name, x.drop(name), true);
            Due.is("drop of " + name + " again", x.drop(name), false);
            Due.is("length of " + name, x.length(name), -1);
        }
        x.puts(0, 9);
        Due.is("drop beside it", x.drop(1), false);
        Due.is("drop of 0 when it was put again", x.drop(0), true);
        Due.is("length of 9 then", x.length(9), 0);
    }

    private static void dropOfNoName() {
        Due.sentence("Answers whether there was one: under no name");
        Tested x = new Tested().puts(0, 1, 2, 3, 4, 5, 6, 7, 8, 9);
        for (int name : NO_NAMES) {
            Due.is("drop of " + name, x.drop(name), false);
        }
        Due.is("live then", x.row(), "1:6:6 0:3:3 | 0:1:1");
    }

    private static void length() {
        Due.sentence("The number of characters of the live version under the name");
        Tested x = new Tested().text(0, "").text(1, "\n").text(2, "a\nb").text(9, "a".repeat(40));
        Due.is("of an empty text", x.length(0), 0);
        Due.is("of a newline", x.length(1), 1);
        Due.is("of two lines", x.length(2), 3);
        Due.is("of the longest", x.length(9), 40);
        x.draft("abcd");
        Due.is("while a draft is written", x.length(2), 3);
        x.put(9);
        Due.is("of the later version", x.length(9), 4);
        x.compact();
        Due.is("behind merging", x.length(9), 4);
    }

    private static void lengthOfNone() {
        Due.sentence("NONE when there is none.");
        Tested x = new Tested().text(0, "a").text(9, "b");
        for (int name = 1; name <= 8; name++) {
            Due.is("length of " + name, x.length(name), -1);
        }
        for (int name : NO_NAMES) {
            Due.is("length of " + name, x.length(name), -1);
        }
        x.drops(9);
        Due.is("length of a dropped one", x.length(9), -1);
        Due.is("length of another", x.length(0), 1);
    }
}
