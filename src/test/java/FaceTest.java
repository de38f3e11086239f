import java.lang.reflect.Field;
import java.lang.reflect.Method;
import java.lang.reflect.Modifier;
import java.util.TreeSet;

/** The public face and promise 1. */
public final class FaceTest {
    public static void main(String[] args) {
        members();
        constants();
        newObject();
        newObjectBesideAnother();
        Due.end();
    }

    private static void members() {
        Due.sentence("The public face");
        TreeSet<String> seen = new TreeSet<>();
        for (Method m : TrigramLines.class.getDeclaredMethods()) {
            if (!Modifier.isPrivate(m.getModifiers()) && !m.isSynthetic()) {
                Due.is("public " + m, Modifier.isPublic(m.getModifiers()), true);
                seen.add(m.getName());
            }
        }
        for (Field f : TrigramLines.class.getDeclaredFields()) {
            if (!Modifier.isPrivate(f.getModifiers())) {
                boolean constant = Modifier.isStatic(f.getModifiers()) && Modifier.isFinal(f.getModifiers());
                Due.is("constant " + f, constant, true);
                seen.add(f.getName());
            }
        }
        Due.is("members", seen.toString(), "[BRACES, BRACKET, COLLATING, DEPTH, EMPTY, ESCAPE, GROUP, NONE, "
                + "REPEAT, SIZE, back, compact, drop, fault, hit, left, length, possible, postings, put, search, "
                + "shard, shards, size, strings, type, write]");
        Due.is("public constructors", TrigramLines.class.getConstructors().length, 1);
        Due.is("final", Modifier.isFinal(TrigramLines.class.getModifiers()), true);
    }

    private static void constants() {
        Due.sentence("The constants of the public face");
        Due.is("NONE", TrigramLines.NONE, -1);
        Due.is("EMPTY", TrigramLines.EMPTY, 1);
        Due.is("GROUP", TrigramLines.GROUP, 2);
        Due.is("REPEAT", TrigramLines.REPEAT, 3);
        Due.is("BRACES", TrigramLines.BRACES, 4);
        Due.is("BRACKET", TrigramLines.BRACKET, 5);
        Due.is("COLLATING", TrigramLines.COLLATING, 6);
        Due.is("ESCAPE", TrigramLines.ESCAPE, 7);
        Due.is("DEPTH", TrigramLines.DEPTH, 8);
        Due.is("SIZE", TrigramLines.SIZE, 9);
    }

    private static void newObject() {
        Due.sentence("No version, no sealed shard, an empty draft, an empty pattern; nothing has been searched.");
        dueNew(new Tested());
    }

    private static void newObjectBesideAnother() {
        Due.sentence("A new object shares nothing with one that was used");
        Tested used = new Tested().text(0, "abc").text(1, "abc").text(2, "abc").draft("abc").typed("b");
        used.search();
        dueNew(new Tested());
        Due.is("row of the used one", used.row(), "0:3:3 | 0:0:0");
        Due.is("hits of the used one", used.hits(), "0/0/1-2 1/0/1-2 2/0/1-2");
    }

    private static void dueNew(Tested x) {
        for (int name = 0; name < 10; name++) {
            Due.is("length of " + name, x.length(name), -1);
            Due.is("drop of " + name, x.drop(name), false);
        }
        Due.is("shards", x.row(), "| 0:0:0");
        Due.is("postings", x.postings('a', 'b', 'c'), 0);
        Due.is("left", x.left(), 0);
        Due.is("compact", x.compact(), 0);
        Due.is("shards after compact", x.row(), "| 0:0:0");
        Due.is("fault", x.fault(), TrigramLines.EMPTY);
        Due.is("back", x.back(), 0);
        Due.is("possible", x.possible(), 0);
        Due.is("hit", x.hit(0), -1);
        Due.is("put", x.put(9), 1);
        Due.is("length of the text from the new draft", x.length(9), 0);
    }
}
