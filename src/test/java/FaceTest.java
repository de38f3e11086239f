import java.lang.reflect.Constructor;
import java.lang.reflect.Field;
import java.lang.reflect.Method;
import java.lang.reflect.Modifier;
import java.util.List;
import java.util.TreeSet;

/** The public face and promise 1. */
public final class FaceTest {
    /** As the document has it, but for the names of the arguments and the constants' values. */
    private static final String[] FACE = {
        "public static final int NONE",
        "public static final int EMPTY",
        "public static final int GROUP",
        "public static final int REPEAT",
        "public static final int BRACES",
        "public static final int BRACKET",
        "public static final int COLLATING",
        "public static final int ESCAPE",
        "public static final int DEPTH",
        "public static final int SIZE",
        "public TrigramLines()",
        "public boolean write(char)",
        "public int put(int)",
        "public boolean drop(int)",
        "public int length(int)",
        "public boolean type(char)",
        "public int back()",
        "public int fault()",
        "public int size()",
        "public int strings()",
        "public int search()",
        "public int possible()",
        "public int hit(int)",
        "public int shards()",
        "public int shard(int,int)",
        "public int postings(int,int,int)",
        "public int compact()",
        "public int left()",
    };

    public static void main(String[] args) {
        members();
        constants();
        newObject();
        newObjectBesideAnother();
        Due.end();
    }

    private static void members() {
        Due.sentence("The public face");
        TreeSet<String> seen = new TreeSet<>();
        for (Method m : TrigramLines.class.getDeclaredMethods()) {
            if (!Modifier.isPrivate(m.getModifiers()) && !m.isSynthetic()) {
                seen.add(m.toString().replace("TrigramLines.", ""));
            }
        }
        for (Field f : TrigramLines.class.getDeclaredFields()) {
            if (!Modifier.isPrivate(f.getModifiers())) {
                seen.add(f.toString().replace("TrigramLines.", ""));
            }
        }
        for (Constructor<?> c : TrigramLines.class.getDeclaredConstructors()) {
            seen.add(c.toString());
        }
        Due.is("members", seen.toString(), new TreeSet<>(List.of(FACE)).toString());
        Due.is("class", Modifier.toString(TrigramLines.class.getModifiers()), "public final");
    }

    private static void constants() {
        Due.sentence("The constants of the public face");
        Due.is("NONE", TrigramLines.NONE, -1);
        Due.is("EMPTY", TrigramLines.EMPTY, 1);
        Due.is("GROUP", TrigramLines.GROUP, 2);
        Due.is("REPEAT", TrigramLines.REPEAT, 3);
        Due.is("BRACES", TrigramLines.BRACES, 4);
        Due.is("BRACKET", TrigramLines.BRACKET, 5);
        Due.is("COLLATING", TrigramLines.COLLATING, 6);
        Due.is("ESCAPE", TrigramLines.ESCAPE, 7);
        Due.is("DEPTH", TrigramLines.DEPTH, 8);
        Due.is("SIZE", TrigramLines.SIZE, 9);
    }

    private static void newObject() {
        Due.sentence("No version, no sealed shard, an empty draft, an empty pattern; nothing has been searched.");
        dueNew(new Tested());
    }

    private static void newObjectBesideAnother() {
        Due.sentence("A new object shares nothing with one that was used");
        Tested used = new Tested().text(0, "abc").text(1, "abc").text(2, "abc").draft("abc").typed("b");
        used.search();
        dueNew(new Tested());
        Due.is("row of the used one", used.row(), "0:3:3 | 0:0:0");
        Due.is("hits of the used one", used.hits(), "0/0/1-2 1/0/1-2 2/0/1-2");
    }

    private static void dueNew(Tested x) {
        for (int name = 0; name < 10; name++) {
            Due.is("length of " + name, x.length(name), -1);
            Due.is("drop of " + name, x.drop(name), false);
        }
        Due.is("shards", x.row(), "| 0:0:0");
        Due.is("postings", x.postings('a', 'b', 'c'), 0);
        Due.is("left", x.left(), 0);
        Due.is("compact", x.compact(), 0);
        Due.is("shards after compact", x.row(), "| 0:0:0");
        Due.is("fault", x.fault(), TrigramLines.EMPTY);
        Due.is("back", x.back(), 0);
        Due.is("possible", x.possible(), 0);
        Due.is("hit", x.hit(0), -1);
        Due.is("put", x.put(9), 1);
        Due.is("length of the text from the new draft", x.length(9), 0);
    }
}
