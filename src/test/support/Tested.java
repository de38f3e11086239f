/** An object under test. It counts its calls, as the document promises nothing behind the 512th. */
final class Tested {
    /** Patterns that have the faults 1 to 9, in this order. */
    static final String[] FAULTY = {"", ")", "*", "a{", "[", "[[.", "\\", "(((((((", "a{9}{9}"};

    private static final int MOST_CALLS = 512;

    private final TrigramLines lines = new TrigramLines();
    private int calls = 0;

    private TrigramLines call() {
        calls++;
        if (calls == MOST_CALLS + 1) {
            Due.is("the test's own calls on one object", calls, MOST_CALLS);
        }
        return lines;
    }

    int calls() {
        return calls;
    }

    boolean write(int code) {
        return call().write((char) code);
    }

    int put(int name) {
        return call().put(name);
    }

    boolean drop(int name) {
        return call().drop(name);
    }

    int length(int name) {
        return call().length(name);
    }

    boolean type(int code) {
        return call().type((char) code);
    }

    int back() {
        return call().back();
    }

    int fault() {
        return call().fault();
    }

    int size() {
        return call().size();
    }

    int strings() {
        return call().strings();
    }

    int search() {
        return call().search();
    }

    int possible() {
        return call().possible();
    }

    int hit(int k) {
        return call().hit(k);
    }

    int shards() {
        return call().shards();
    }

    int shard(int k, int what) {
        return call().shard(k, what);
    }

    int postings(int a, int b, int c) {
        return call().postings(a, b, c);
    }

    int compact() {
        return call().compact();
    }

    int left() {
        return call().left();
    }

    /** Writes all characters of a text into the draft. */
    Tested draft(String text) {
        for (int k = 0; k < text.length(); k++) {
            Due.is("write of character " + k + " of " + text, write(text.charAt(k)), true);
        }
        return this;
    }

    /** Puts a text under a name. */
    Tested text(int name, String text) {
        draft(text);
        put(name);
        return this;
    }

    /** Puts empty texts under names. */
    Tested puts(int... names) {
        for (int name : names) {
            put(name);
        }
        return this;
    }

    Tested drops(int... names) {
        for (int name : names) {
            Due.is("drop of " + name, drop(name), true);
        }
        return this;
    }

    /** Types all characters of a pattern in the place of the one that was there. */
    Tested pattern(String pattern) {
        int left = back();
        while (left > 0) {
            left = back();
        }
        return typed(pattern);
    }

    Tested typed(String more) {
        for (int k = 0; k < more.length(); k++) {
            Due.is("type of character " + k + " of " + more, type(more.charAt(k)), true);
        }
        return this;
    }

    /** Types a pattern and searches. */
    int search(String pattern) {
        return pattern(pattern).search();
    }

    /** Each sealed shard as level:versions:live, from the oldest, and the open one behind a bar. */
    String row() {
        StringBuilder row = new StringBuilder();
        int count = shards();
        for (int k = 0; k < count; k++) {
            row.append(oneShard(k)).append(' ');
        }
        return row.append("| ").append(oneShard(-1)).toString();
    }

    private String oneShard(int k) {
        return shard(k, 0) + ":" + shard(k, 1) + ":" + shard(k, 2);
    }

    /** All hits of the latest search, each as name/line/i-j. */
    String hits() {
        StringBuilder all = new StringBuilder();
        int k = 0;
        for (int hit = hit(0); hit != TrigramLines.NONE && calls < MOST_CALLS; hit = hit(k)) {
            all.append(k == 0 ? "" : " ").append(hit / 16777216).append('/').append(hit / 65536 % 256);
            all.append('/').append(hit / 256 % 256).append('-').append(hit % 256);
            k++;
        }
        return all.toString();
    }
}
