/** SHARDS and TRIGRAMS of the terms, and promises 14 to 18. */
public final class ShardsTest {
    private static final int MIN = Integer.MIN_VALUE;
    private static final int MAX = Integer.MAX_VALUE;

    public static void main(String[] args) {
        entersOpenShard();
        threeLive();
        threeNotLive();
        dropSealsNothing();
        sealedIsNewest();
        oneShardIsSettled();
        otherLevelsAreSettled();
        settlingGoesOn();
        settlingBehindCompact();
        mergedHoldsLive();
        mergedOfOneLive();
        mergedOfNoneLive();
        onlyMergingTakesOut();
        shards();
        shardOfIndex();
        shardOfWhat();
        openShard();
        trigram();
        trigramPlaces();
        trigramIsCountedOnce();
        trigramOverNewline();
        postingsOfAllShards();
        postingsOfNoCharacters();
        compactOfEmptyOpen();
        compactSealsOpen();
        compactWhateverLevels();
        compactWithoutLive();
        compactGoesOnWithoutLive();
        compactAnswers();
        compactKeepsTheRest();
        left();
        manyVersions();
        Due.end();
    }

    private static void entersOpenShard() {
        Due.sentence("A version that is put enters the open shard.");
        Tested x = new Tested();
        Due.is("none", x.row(), "| 0:0:0");
        x.put(3);
        Due.is("one", x.row(), "| 0:1:1");
        x.put(4);
        Due.is("two", x.row(), "| 0:2:2");
        x.puts(5, 6);
        Due.is("the one behind a sealed shard", x.row(), "0:3:3 | 0:1:1");
    }

    private static void threeLive() {
        Due.sentence("When that has three versions then (live or not), they become a sealed shard of level 0");
        Tested x = new Tested().puts(0, 1);
        Due.is("two", x.row(), "| 0:2:2");
        x.put(2);
        Due.is("three", x.row(), "0:3:3 | 0:0:0");
        x.put(3);
        Due.is("four", x.row(), "0:3:3 | 0:1:1");
    }

    private static void threeNotLive() {
        Due.sentence("three versions then (live or not): when not all are live");
        Tested x = new Tested().puts(0, 0);
        Due.is("two, one live", x.row(), "| 0:2:1");
        x.put(0);
        Due.is("three, one live", x.row(), "0:3:1 | 0:0:0");
        Tested y = new Tested().puts(0, 1).drops(0, 1);
        Due.is("two, none live", y.row(), "| 0:2:0");
        y.put(2);
        Due.is("three, the last one live", y.row(), "0:3:1 | 0:0:0");
        y.drops(2);
        Due.is("three, none live", y.row(), "0:3:0 | 0:0:0");
    }

    private static void dropSealsNothing() {
        Due.sentence("A version that is put enters the open shard: a drop and a refused put enter nothing");
        Tested x = new Tested().puts(0, 1).drops(0);
        x.put(10);
        x.drop(0);
        Due.is("still two", x.row(), "| 0:2:1");
    }

    private static void sealedIsNewest() {
        Due.sentence("a sealed shard of level 0, the newest, the open shard is empty");
        Tested x = new Tested().puts(0, 1, 2, 3, 4, 5, 6, 7, 8).drops(8);
        Due.is("behind the older one", x.row(), "1:6:6 0:3:2 | 0:0:0");
    }

    private static void oneShardIsSettled() {
        Due.sentence("as long as it has two or more shards");
        Tested x = new Tested().puts(0, 1, 1);
        Due.is("one, with a version that is not live", x.row(), "0:3:2 | 0:0:0");
        Due.is("left by one", x.left(), 0);
        x.puts(2, 3, 4);
        Due.is("two", x.row(), "1:5:5 | 0:0:0");
        Due.is("left by two", x.left(), 1);
    }

    private static void otherLevelsAreSettled() {
        Due.sentence("and the two newest have the same level");
        Tested x = new Tested().puts(0, 1, 2, 3, 4, 5, 6, 7, 7);
        Due.is("levels 1 and 0", x.row(), "1:6:6 0:3:2 | 0:0:0");
        x.puts(8, 9);
        Due.is("before they are the same", x.row(), "1:6:6 0:3:2 | 0:2:2");
        Due.is("left before", x.left(), 0);
        x.put(9);
        Due.is("levels 0 and 0, then 1 and 1", x.row(), "2:10:10 | 0:0:0");
        Due.is("left then", x.left(), 2);
    }

    private static void settlingGoesOn() {
        Due.sentence("these two are MERGED into one with the level one more, as long as [..]");
        String[] levels = {"0", "1", "1 0", "2", "2 0", "2 1", "2 1 0", "3", "3 0"};
        Tested x = new Tested();
        for (int k = 0; k < levels.length; k++) {
            x.puts(1, 2, 3);
            StringBuilder seen = new StringBuilder();
            for (int shard = 0; shard < x.shards(); shard++) {
                seen.append(shard == 0 ? "" : " ").append(x.shard(shard, 0));
            }
            Due.is("levels behind " + (3 * k + 3) + " versions", seen.toString(), levels[k]);
        }
    }

    private static void settlingBehindCompact() {
        Due.sentence("the two newest have the same level: behind a compact");
        Tested x = new Tested().puts(0);
        x.compact();
        Due.is("one version at level 0", x.row(), "0:1:1 | 0:0:0");
        x.puts(1, 2);
        Due.is("which is not settled by two", x.row(), "0:1:1 | 0:2:2");
        x.put(3);
        Due.is("but by three", x.row(), "1:4:4 | 0:0:0");
        x.put(4);
        x.compact();
        Due.is("level 2", x.row(), "2:5:5 | 0:0:0");
        x.puts(5, 6, 7);
        Due.is("levels 2 and 0", x.row(), "2:5:5 0:3:3 | 0:0:0");
        x.puts(5, 6, 7);
        Due.is("levels 2 and 1", x.row(), "2:5:5 1:3:3 | 0:0:0");
        x.puts(5, 6, 7, 5, 6, 7);
        Due.is("levels 2 and 2 are merged", x.row(), "3:8:8 | 0:0:0");
    }

    private static void mergedHoldsLive() {
        Due.sentence("which holds those of their versions that are live");
        Tested x = new Tested().text(0, "aaa").text(1, "bbb").text(2, "ccc").text(3, "ddd").text(4, "eee");
        x.drops(1, 3);
        Due.is("before", x.row(), "0:3:2 | 0:2:1");
        x.text(5, "fff");
        Due.is("then", x.row(), "1:4:4 | 0:0:0");
        int[] due = {1, 0, 1, 0, 1, 1};
        for (int k = 0; k < due.length; k++) {
            int c = 'a' + k;
            Due.is("whether it holds text " + k, x.postings(c, c, c), due[k]);
        }
        Tested all = new Tested().puts(0, 1, 2, 3, 4, 5);
        Due.is("when all are live", all.row(), "1:6:6 | 0:0:0");
        Due.is("left when all are live", all.left(), 0);
    }

    private static void mergedOfOneLive() {
        Due.sentence("when none of them is live, no shard takes their place: but when one is");
        Tested x = new Tested().puts(0, 0, 0, 0, 0, 0);
        Due.is("the last one of six", x.row(), "1:1:1 | 0:0:0");
        Tested y = new Tested().puts(0, 1, 2, 3).drops(1, 2, 3);
        Due.is("merges", y.compact(), 1);
        Due.is("the first one of four", y.row(), "1:1:1 | 0:0:0");
        Tested z = new Tested().puts(0, 1, 2, 3).drops(0, 1, 2);
        Due.is("merges", z.compact(), 1);
        Due.is("the last one of four", z.row(), "1:1:1 | 0:0:0");
    }

    private static void mergedOfNoneLive() {
        Due.sentence("but when none of them is live, no shard takes their place");
        Tested x = new Tested().puts(0, 1, 2, 3).drops(0, 1, 2, 3);
        Due.is("before", x.row(), "0:3:0 | 0:1:0");
        Due.is("merges", x.compact(), 1);
        Due.is("then", x.row(), "| 0:0:0");
        Due.is("left", x.left(), 4);
        x.puts(0, 1, 2);
        Due.is("the next ones are not merged with it", x.row(), "0:3:3 | 0:0:0");
    }

    private static void onlyMergingTakesOut() {
        Due.sentence("(Only merging takes versions out of shards.)");
        Tested x = new Tested().text(0, "abc").text(1, "abc").drops(0, 1);
        Due.is("a drop does not", x.postings('a', 'b', 'c'), 2);
        x.text(1, "abc");
        Due.is("sealing does not", x.row(), "0:3:1 | 0:0:0");
        x.drops(1);
        Due.is("a compact of one shard does not", x.compact(), 0);
        Due.is("the shard then", x.row(), "0:3:0 | 0:0:0");
        Due.is("postings then", x.postings('a', 'b', 'c'), 3);
        Due.is("left then", x.left(), 0);
        x.put(2);
        x.compact();
        Due.is("merging does", x.row(), "1:1:1 | 0:0:0");
        Due.is("postings behind merging", x.postings('a', 'b', 'c'), 0);
        Due.is("left behind merging", x.left(), 3);
    }

    private static void shards() {
        Due.sentence("How many sealed shards there are.");
        int[] due = {0, 0, 1, 1, 1, 1, 1, 1, 2, 2, 2, 1};
        Tested x = new Tested();
        Due.is("before any version", x.shards(), 0);
        for (int k = 0; k < due.length; k++) {
            x.put(k % 10);
            Due.is("behind " + (k + 1) + " versions", x.shards(), due[k]);
        }
        for (int k = 0; k < 9; k++) {
            x.put(k);
        }
        Due.is("behind 21 versions", x.shards(), 3);
    }

    private static void shardOfIndex() {
        Due.sentence("Of the k-th sealed shard, 0 the oldest [..] NONE when there is no such shard");
        Tested x = new Tested();
        dueShard(x, 0, "-1:-1:-1");
        dueShard(x, -1, "0:0:0");
        x.puts(0, 1, 2, 3, 4, 5, 6, 7, 8, 9).drops(0, 8);
        dueShard(x, 0, "1:6:5");
        dueShard(x, 1, "0:3:2");
        dueShard(x, -1, "0:1:1");
        int[] none = {2, 3, -2, MIN, MAX, 256, 65536, MIN + 1};
        for (int k : none) {
            dueShard(x, k, "-1:-1:-1");
        }
    }

    private static void dueShard(Tested x, int k, String due) {
        Due.is("shard " + k, x.shard(k, 0) + ":" + x.shard(k, 1) + ":" + x.shard(k, 2), due);
    }

    private static void shardOfWhat() {
        Due.sentence("NONE when [..] what is not 0 .. 2.");
        Tested x = new Tested().puts(0, 1, 2, 3, 4, 5, 6).drops(0);
        int[] none = {-1, 3, 4, MIN, MAX, 256, 65536};
        for (int what : none) {
            Due.is("what " + what + " of a sealed shard", x.shard(0, what), -1);
            Due.is("what " + what + " of the open shard", x.shard(-1, what), -1);
            Due.is("what " + what + " of no shard", x.shard(1, what), -1);
        }
        Due.is("what 0", x.shard(0, 0), 1);
        Due.is("what 1", x.shard(0, 1), 6);
        Due.is("what 2", x.shard(0, 2), 5);
    }

    private static void openShard() {
        Due.sentence("(k = -1: of the open shard, whose level is 0)");
        Tested x = new Tested();
        Due.is("empty", x.row(), "| 0:0:0");
        x.puts(0, 1).drops(0);
        Due.is("with two versions", x.row(), "| 0:2:1");
        x.puts(2, 3, 4, 5, 6);
        Due.is("behind a shard of level 1", x.row(), "1:5:5 | 0:1:1");
    }

    private static void trigram() {
        Due.sentence("A TRIGRAM is three characters; a text HAS it when they stand in it one behind the other.");
        String[] without = {"", "a", "ab", "bca", "cab", "acb", "bcab", "ab c", "abxc", "axbc", "aabbcc", "aBc"};
        for (String text : without) {
            Due.is("abc in " + text, new Tested().text(0, text).postings('a', 'b', 'c'), 0);
        }
        String[] with = {"abc", "xabc", "abcx", "ababc", "aabcc"};
        for (String text : with) {
            Due.is("abc in " + text, new Tested().text(0, text).postings('a', 'b', 'c'), 1);
        }
        Due.is("aaa in aa", new Tested().text(0, "aa").postings('a', 'a', 'a'), 0);
        Due.is("aaa in aaa", new Tested().text(0, "aaa").postings('a', 'a', 'a'), 1);
        Tested apart = new Tested().text(0, "ab").text(1, "cx").draft("abc");
        Due.is("abc in two texts and the draft", apart.postings('a', 'b', 'c'), 0);
    }

    private static void trigramPlaces() {
        Due.sentence("a text HAS it: at the first and the last place of the longest text");
        for (int at = 0; at <= 37; at++) {
            Tested x = new Tested().text(0, "x".repeat(at) + "abc" + "x".repeat(37 - at));
            Due.is("abc at place " + at, x.postings('a', 'b', 'c'), 1);
            Due.is("bca at place " + at, x.postings('b', 'c', 'a'), 0);
        }
        Tested around = new Tested().text(0, "c" + "x".repeat(37) + "ab");
        Due.is("abc from the end to the beginning", around.postings('a', 'b', 'c'), 0);
    }

    private static void trigramIsCountedOnce() {
        Due.sentence("How many versions [..] have the trigram: not how often");
        Due.is("in abcabc", new Tested().text(0, "abcabc").postings('a', 'b', 'c'), 1);
        Due.is("aaa in aaaaa", new Tested().text(0, "aaaaa").postings('a', 'a', 'a'), 1);
        Tested x = new Tested().text(0, "abcabc").text(1, "abc");
        Due.is("in two versions", x.postings('a', 'b', 'c'), 2);
    }

    private static void trigramOverNewline() {
        Due.sentence("Characters are [..] and the newline 10: in a trigram");
        Tested x = new Tested().text(0, "ab\ncd\n\n\n").text(1, "ab cd");
        Due.is("a, b, newline", x.postings('a', 'b', 10), 1);
        Due.is("b, newline, c", x.postings('b', 10, 'c'), 1);
        Due.is("newline, c, d", x.postings(10, 'c', 'd'), 1);
        Due.is("three newlines", x.postings(10, 10, 10), 1);
        Due.is("b, space, c", x.postings('b', 32, 'c'), 1);
        Due.is("a, b, c", x.postings('a', 'b', 'c'), 0);
        Tested ends = new Tested().text(0, " ~ ");
        Due.is("the codes 32, 126, 32", ends.postings(32, 126, 32), 1);
    }

    private static void postingsOfAllShards() {
        Due.sentence("How many versions in all shards, live or not");
        Tested x = new Tested().text(0, "abc");
        Due.is("in the open shard", x.postings('a', 'b', 'c'), 1);
        x.drops(0);
        Due.is("not live", x.postings('a', 'b', 'c'), 1);
        x.text(0, "abc").text(0, "abc");
        Due.is("in a sealed shard", x.postings('a', 'b', 'c'), 3);
        x.text(1, "abc").text(2, "xyz");
        Due.is("in both", x.postings('a', 'b', 'c'), 4);
        Due.is("of another one", x.postings('x', 'y', 'z'), 1);
        x.text(3, "abc");
        Due.is("behind merging", x.postings('a', 'b', 'c'), 3);
        x.text(4, "abc").text(5, "abc").text(6, "abc").text(7, "abc");
        Due.is("the shards", x.row(), "1:4:4 0:3:3 | 0:1:1");
        Due.is("in two sealed shards and the open one", x.postings('a', 'b', 'c'), 7);
    }

    private static void postingsOfNoCharacters() {
        Due.sentence("0 when these are not characters");
        Tested x = new Tested().text(0, "aaa");
        int[] none = {-1, 0, 9, 11, 31, 127, 128, 256 + 'a', 65536 + 'a', 'a' - 65536, MIN, MAX, MIN + 'a'};
        for (int code : none) {
            Due.is("a, a, " + code, x.postings('a', 'a', code), 0);
            Due.is("a, " + code + ", a", x.postings('a', code, 'a'), 0);
            Due.is(code + ", a, a", x.postings(code, 'a', 'a'), 0);
            Due.is("three times " + code, x.postings(code, code, code), 0);
        }
        Due.is("a, a, a", x.postings('a', 'a', 'a'), 1);
    }

    private static void compactOfEmptyOpen() {
        Due.sentence("Seals the open shard, if it is not empty");
        Tested x = new Tested();
        Due.is("merges of none", x.compact(), 0);
        Due.is("none", x.row(), "| 0:0:0");
        x.puts(0, 1, 2);
        Due.is("merges of one sealed", x.compact(), 0);
        Due.is("one sealed", x.row(), "0:3:3 | 0:0:0");
        x.puts(3, 4, 5, 6, 7, 8);
        Due.is("merges of two sealed", x.compact(), 1);
        Due.is("two sealed", x.row(), "2:9:9 | 0:0:0");
        Due.is("merges of that", x.compact(), 0);
        Due.is("that", x.row(), "2:9:9 | 0:0:0");
    }

    private static void compactSealsOpen() {
        Due.sentence("(as a sealed shard of level 0, the newest)");
        Tested x = new Tested().puts(4);
        Due.is("merges of one version", x.compact(), 0);
        Due.is("one version", x.row(), "0:1:1 | 0:0:0");
        Tested y = new Tested().puts(4, 4);
        Due.is("merges of two versions", y.compact(), 0);
        Due.is("two versions", y.row(), "0:2:1 | 0:0:0");
        Tested z = new Tested().puts(4).drops(4);
        Due.is("merges of a version that is not live", z.compact(), 0);
        Due.is("a version that is not live", z.row(), "0:1:0 | 0:0:0");
        z.put(5);
        Due.is("the next one enters the open shard", z.row(), "0:1:0 | 0:1:1");
    }

    private static void compactWhateverLevels() {
        Due.sentence("merges the two newest, whatever their levels, into one with the level one more than the "
                + "greater of theirs");
        Tested x = new Tested().puts(0, 1, 2, 3);
        Due.is("merges of levels 0 and 0", x.compact(), 1);
        Due.is("levels 0 and 0", x.row(), "1:4:4 | 0:0:0");
        x.put(5);
        Due.is("merges of levels 1 and 0", x.compact(), 1);
        Due.is("levels 1 and 0", x.row(), "2:5:5 | 0:0:0");
        x.put(6);
        Due.is("merges of levels 2 and 0", x.compact(), 1);
        Due.is("levels 2 and 0", x.row(), "3:6:6 | 0:0:0");
        x.puts(7, 8, 9, 7, 8, 9);
        Due.is("levels 3 and 1 before", x.row(), "3:6:6 1:3:3 | 0:0:0");
        Due.is("merges of levels 3 and 1", x.compact(), 1);
        Due.is("levels 3 and 1", x.row(), "4:9:9 | 0:0:0");
        x.puts(0, 1, 2, 3);
        Due.is("merges of levels 4, 0 and 0", x.compact(), 2);
        Due.is("levels 4, 0 and 0", x.row(), "5:9:9 | 0:0:0");
    }

    private static void compactWithoutLive() {
        Due.sentence("(no shard takes their place when none of their versions is live)");
        Tested x = new Tested().puts(0, 1, 2, 3, 4, 5, 6, 7, 8, 9).drops(6, 7, 8, 9);
        Due.is("three before", x.row(), "1:6:6 0:3:0 | 0:1:0");
        Due.is("merges of three when the newest two hold none", x.compact(), 1);
        Due.is("the oldest stays as it was", x.row(), "1:6:6 | 0:0:0");
        Due.is("left by it", x.left(), 4);
        x.puts(6, 7, 8, 6, 7, 8).puts(9, 9, 9, 9);
        x.drops(9);
        Due.is("levels 2 and 0 and the open shard", x.row(), "2:9:9 0:3:0 | 0:1:0");
        x.drops(0, 1, 2, 3, 4, 5, 6, 7, 8);
        Due.is("merges of three when none is live", x.compact(), 1);
        Due.is("the oldest stays, as it is not merged", x.row(), "2:9:0 | 0:0:0");
        x.puts(9).drops(9);
        Due.is("merges of the rest", x.compact(), 1);
        Due.is("nothing stays", x.row(), "| 0:0:0");
    }

    private static void compactGoesOnWithoutLive() {
        Due.sentence("as long as there are two or more sealed shards: when no shard took the place of two, too");
        Tested x = new Tested().puts(0, 1, 2, 3, 4, 5, 0, 1, 2, 3, 4, 5).puts(6, 7, 6, 7, 6, 7).puts(8, 8, 8, 9);
        x.drops(8, 9);
        Due.is("before", x.row(), "2:6:6 1:2:2 0:3:0 | 0:1:0");
        Due.is("left before", x.left(), 10);
        Due.is("merges", x.compact(), 2);
        Due.is("then", x.row(), "3:8:8 | 0:0:0");
        Due.is("left then", x.left(), 14);
    }

    private static void compactAnswers() {
        Due.sentence("Answers how often two were merged in this call.");
        Tested x = new Tested().puts(0, 1, 2, 3, 4, 5, 6, 7, 8, 0, 1, 2, 3, 4, 5, 6, 7, 8, 0, 1, 2);
        Due.is("shards", x.shards(), 3);
        x.put(9);
        Due.is("of four", x.compact(), 3);
        Due.is("of one", x.compact(), 0);
        x.put(9);
        Due.is("of two, not of the calls before", x.compact(), 1);
    }

    private static void compactKeepsTheRest() {
        Due.sentence("Promise 17 changes the shards alone");
        Tested x = new Tested().text(0, "abc").text(1, "b").text(1, "bb").text(2, "x").drops(2).draft("yz");
        x.search("b");
        x.compact();
        Due.is("hits", x.hits(), "0/0/1-2 1/0/0-1");
        Due.is("possible", x.possible(), 3);
        Due.is("length of 0", x.length(0), 3);
        Due.is("length of 1", x.length(1), 2);
        Due.is("size", x.size(), 1);
        Due.is("search", x.search(), 2);
        Due.is("put", x.put(3), 5);
        Due.is("length of the draft", x.length(3), 2);
    }

    private static void left() {
        Due.sentence("How many versions merging has taken out of shards so far.");
        Tested x = new Tested().puts(0, 0, 0, 0, 0);
        Due.is("before a merge", x.left(), 0);
        x.put(0);
        Due.is("behind a merge of six, one live", x.left(), 5);
        x.drops(0);
        Due.is("behind a drop", x.left(), 5);
        x.put(1);
        Due.is("behind a put", x.left(), 5);
        x.compact();
        Due.is("behind a compact", x.left(), 6);
        x.compact();
        Due.is("behind a compact that merges nothing", x.left(), 6);
        x.drops(1);
        x.put(2);
        x.drops(2);
        x.compact();
        Due.is("behind a merge of none that is live", x.left(), 8);
        Due.is("the shards then", x.row(), "| 0:0:0");
    }

    private static void manyVersions() {
        Due.sentence("An object is used for at most 512 calls: most of them put");
        Tested x = new Tested();
        for (int k = 1; k <= 383; k++) {
            x.put(0);
        }
        Due.is("383 versions", x.row(), "6:1:0 5:1:0 4:1:0 3:1:0 2:1:0 1:1:0 0:3:0 | 0:2:1");
        x.put(1);
        Due.is("384 versions", x.row(), "7:2:2 | 0:0:0");
        Due.is("left", x.left(), 382);
    }
}
