import java.util.function.Consumer;

/**
 * A call that is refused changes nothing: each refused call is made on one of two objects that were
 * used alike, and all that can be asked of the two must be the same then.
 */
public final class RefusalsTest {
    private static final int MIN = Integer.MIN_VALUE;
    private static final int MAX = Integer.MAX_VALUE;

    public static void main(String[] args) {
        differences();
        write();
        writeToFullDraft();
        put();
        putToFullShard();
        drop();
        type();
        typeToFullPattern();
        backAtNone();
        search();
        searchOfEachFault();
        asking();
        compactOfOne();
        Due.end();
    }

    /** Texts in sealed shards and the open one, live and not, a draft, a search and a pattern. */
    private static void use(Tested x) {
        x.text(0, "abc").text(1, "ab\nabc").text(2, "x").text(1, "bd").drops(2).draft("abd").typed("b");
        x.search();
        x.typed("d?");
    }

    private static String state(Tested x) {
        StringBuilder all = new StringBuilder();
        for (int name = 0; name <= 9; name++) {
            all.append(x.length(name)).append(' ');
        }
        all.append("row ").append(x.row()).append(" left ").append(x.left());
        all.append(" postings ").append(x.postings('a', 'b', 'c')).append(x.postings('a', 'b', 'd'));
        all.append(" hits ").append(x.hits()).append(" possible ").append(x.possible());
        all.append(" pattern ").append(x.fault()).append(' ').append(x.size()).append(' ').append(x.strings());
        all.append(" search ").append(x.search()).append(' ').append(x.hits());
        appendDraft(all, x);
        appendPattern(all, x);
        return all.append(" compact ").append(x.compact()).append(' ').append(x.row()).toString();
    }

    private static void appendDraft(StringBuilder all, Tested x) {
        all.append(" put ").append(x.put(8)).append(" length ").append(x.length(8));
        all.append(" search ").append(x.search()).append(' ').append(x.hits());
        all.append(" postings ").append(x.postings('a', 'b', 'd')).append(x.postings('d', 'd', 'd'));
        all.append(x.postings('d', 'd', 'z')).append(x.postings('b', 'd', 'z'));
    }

    private static void appendPattern(StringBuilder all, Tested x) {
        int left = x.back();
        for (int k = 0; k < 24 && left > 0; k++) {
            all.append(" back ").append(left).append(' ').append(x.fault()).append(' ').append(x.size());
            left = x.back();
        }
    }

    private static void dueSame(String what, Consumer<Tested> use, Consumer<Tested> refused) {
        Tested asked = new Tested();
        Tested other = new Tested();
        use.accept(asked);
        use.accept(other);
        refused.accept(asked);
        Due.is("state behind " + what, state(asked), state(other));
    }

    /** What is compared must tell calls that are not refused, or it would tell nothing. */
    private static void differences() {
        Due.sentence("A call that is refused changes nothing: the state that is compared");
        Tested plain = new Tested();
        use(plain);
        String before = state(plain);
        dueOther("write", before, x -> x.write('z'));
        dueOther("put", before, x -> x.put(0));
        dueOther("drop", before, x -> x.drop(0));
        dueOther("type", before, x -> x.type('z'));
        dueOther("back", before, x -> x.back());
        dueOther("search", before, x -> x.search());
        dueOther("compact", before, x -> x.compact());
    }

    private static void dueOther(String what, String before, Consumer<Tested> call) {
        Tested x = new Tested();
        use(x);
        call.accept(x);
        Due.is("whether the state is the same behind " + what, state(x).equals(before), false);
    }

    private static void write() {
        Due.sentence("A call that is refused changes nothing: write of what is no character");
        for (int code : new int[] {0, 9, 11, 31, 127, 255, 256 + 'z', 65535}) {
            dueSame("write of " + code, RefusalsTest::use, x -> Due.is("write of " + code, x.write(code), false));
            dueSame("write of " + code + " first", x -> { }, x -> Due.is("write of " + code, x.write(code), false));
        }
    }

    private static void writeToFullDraft() {
        Due.sentence("A call that is refused changes nothing: write to a draft of 40 characters");
        for (int code : new int[] {'z', 10, 32, 126, 31, 127}) {
            dueSame("write of " + code, x -> {
                use(x);
                x.draft("d".repeat(37));
            }, x -> Due.is("write of " + code, x.write(code), false));
        }
        dueSame("many of them", x -> x.draft("d".repeat(40)), x -> {
            for (int k = 0; k < 45; k++) {
                Due.is("write", x.write('z'), false);
            }
        });
    }

    private static void put() {
        Due.sentence("A call that is refused changes nothing: put under no name");
        for (int name : new int[] {-1, 10, MIN, MAX, 256}) {
            dueSame("put of " + name, RefusalsTest::use, x -> Due.is("put of " + name, x.put(name), -1));
            dueSame("put of " + name + " first", x -> { }, x -> Due.is("put of " + name, x.put(name), -1));
        }
    }

    private static void putToFullShard() {
        Due.sentence("A call that is refused changes nothing: put when the open shard has two versions");
        for (int name : new int[] {-1, 10}) {
            dueSame("put of " + name, x -> {
                use(x);
                x.put(5);
                x.draft("abd");
            }, x -> {
                Due.is("open shard", x.row(), "0:3:1 | 0:2:2");
                Due.is("put of " + name, x.put(name), -1);
                Due.is("open shard then", x.row(), "0:3:1 | 0:2:2");
            });
        }
    }

    private static void drop() {
        Due.sentence("A call that is refused changes nothing: drop where there is no text");
        for (int name : new int[] {-1, 10, MIN, MAX, 2, 3, 9}) {
            dueSame("drop of " + name, RefusalsTest::use, x -> Due.is("drop of " + name, x.drop(name), false));
        }
        dueSame("drop of a new object", x -> { }, x -> Due.is("drop", x.drop(0), false));
    }

    private static void type() {
        Due.sentence("A call that is refused changes nothing: type of what is no character of a pattern");
        for (int code : new int[] {0, 9, 10, 31, 127, 255, 256 + 'z', 65535}) {
            dueSame("type of " + code, RefusalsTest::use, x -> Due.is("type of " + code, x.type(code), false));
            dueSame("type of " + code + " first", x -> { }, x -> Due.is("type of " + code, x.type(code), false));
        }
    }

    private static void typeToFullPattern() {
        Due.sentence("A call that is refused changes nothing: type to a pattern of 24 characters");
        for (int code : new int[] {'z', '(', '*', '|', 32, 126, 10}) {
            dueSame("type of " + code, x -> {
                use(x);
                x.typed("b?".repeat(10) + "d");
            }, x -> Due.is("type of " + code, x.type(code), false));
        }
        dueSame("type to a pattern that was read", x -> {
            use(x);
            x.typed("b?".repeat(10) + "d");
            x.search();
        }, x -> Due.is("type", x.type('z'), false));
    }

    private static void backAtNone() {
        Due.sentence("A call that is refused changes nothing: back when there is no character");
        dueSame("back of a new object", x -> { }, x -> Due.is("back", x.back(), 0));
        dueSame("back", x -> {
            use(x);
            x.pattern("");
        }, x -> {
            Due.is("back", x.back(), 0);
            Due.is("back again", x.back(), 0);
        });
    }

    private static void search() {
        Due.sentence("A call that is refused changes nothing: search with a fault");
        dueSame("search of a new object", x -> { }, x -> Due.is("search", x.search(), -1));
        dueSame("search behind one that was not refused", x -> {
            use(x);
            x.typed("(");
        }, x -> {
            String hits = x.hits();
            Due.is("search", x.search(), -2);
            Due.is("hits", x.hits(), hits);
            Due.is("hits that there were", hits, "0/0/1-2 1/0/0-1");
            Due.is("possible", x.possible(), 3);
        });
    }

    private static void searchOfEachFault() {
        Due.sentence("A call that is refused changes nothing: search with each of the faults");
        for (int k = 0; k < Tested.FAULTY.length; k++) {
            String pattern = Tested.FAULTY[k];
            int due = -1 - k;
            dueSame("search of " + pattern, x -> {
                use(x);
                x.pattern(pattern);
            }, x -> Due.is("search of " + pattern, x.search(), due));
        }
    }

    private static void asking() {
        Due.sentence("What only answers changes nothing");
        dueSame("all questions", RefusalsTest::use, x -> {
            Due.is("length", x.length(10) + x.length(-1) + x.length(7) + x.length(0), 0);
            Due.is("fault", x.fault(), 0);
            Due.is("size", x.size(), 3);
            Due.is("strings", x.strings(), -1);
            Due.is("possible", x.possible(), 3);
            Due.is("hit", x.hit(-1) + x.hit(2) + x.hit(MAX) + x.hit(MIN), -4);
            Due.is("shards", x.shards(), 1);
            Due.is("shard", x.shard(-2, 0) + x.shard(1, 0) + x.shard(0, 3) + x.shard(-1, -1), -4);
            Due.is("postings", x.postings(-1, 'b', 'c') + x.postings('a', 127, 'c') + x.postings('a', 'b', MAX), 0);
            Due.is("left", x.left(), 0);
        });
    }

    private static void compactOfOne() {
        Due.sentence("Seals the open shard, if it is not empty: a compact of one sealed shard changes nothing");
        dueSame("compact", x -> x.text(0, "abc").text(0, "abd").text(1, "b").typed("b"),
                x -> Due.is("compact", x.compact(), 0));
        dueSame("compact of a new object", x -> { }, x -> Due.is("compact", x.compact(), 0));
    }
}
