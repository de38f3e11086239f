import java.util.ArrayList;

/** Keeps a few texts under names and finds the lines in which a pattern matches. */
public final class TrigramLines {
    public static final int NONE = -1;
    public static final int EMPTY = 1;
    public static final int GROUP = 2;
    public static final int REPEAT = 3;
    public static final int BRACES = 4;
    public static final int BRACKET = 5;
    public static final int COLLATING = 6;
    public static final int ESCAPE = 7;
    public static final int DEPTH = 8;
    public static final int SIZE = 9;

    private static final int NAMES = 10;
    private static final int LONGEST_TEXT = 40;
    private static final int LONGEST_PATTERN = 24;
    private static final int GREATEST_SIZE = 60;
    private static final int MOST_OPEN_GROUPS = 6;
    private static final int FULL_SHARD = 3;
    private static final int FAULTY = -2;
    private static final char NEWLINE = 10;
    private static final char FIRST_PRINTED = 32;
    private static final char LAST_PRINTED = 126;

    /** The places of a line are 0 to its length, so a set of places is the bits of one long. */
    private static final int MOST_PLACES = LONGEST_TEXT + 1;

    private final char[] draft = new char[LONGEST_TEXT];
    private int draftLength;
    private final char[] pattern = new char[LONGEST_PATTERN];
    private int patternLength;
    /** Null when the pattern has changed since it was read. */
    private Reader latestReader;
    /** The live version under each name, null where there is none. */
    private final Version[] named = new Version[NAMES];
    private int versionCount;
    private Shard open = new Shard(0);
    /** From the oldest to the newest. */
    private final ArrayList<Shard> sealed = new ArrayList<>();
    private int takenOut;
    private final int[] hits = new int[NAMES * MOST_PLACES];
    private int hitCount;
    private int possibleNames;

    public TrigramLines() {
    }

    public boolean write(char c) {
        if (!isCharacter(c) || draftLength >= LONGEST_TEXT) {
            return false;
        }
        draft[draftLength] = c;
        draftLength++;
        return true;
    }

    public int put(int name) {
        if (!isName(name)) {
            return NONE;
        }
        retire(name);
        Version version = new Version(draft, draftLength);
        draftLength = 0;
        named[name] = version;
        versionCount++;
        open.add(version);
        if (open.count() >= FULL_SHARD) {
            sealOpen();
            settle();
        }
        return versionCount;
    }

    public boolean drop(int name) {
        return isName(name) && retire(name);
    }

    public int length(int name) {
        if (!isName(name) || named[name] == null) {
            return NONE;
        }
        return named[name].text.length;
    }

    public boolean type(char c) {
        if (!isPrinted(c) || patternLength >= LONGEST_PATTERN) {
            return false;
        }
        pattern[patternLength] = c;
        patternLength++;
        latestReader = null;
        return true;
    }

    public int back() {
        if (patternLength > 0) {
            patternLength--;
            latestReader = null;
        }
        return patternLength;
    }

    public int fault() {
        return readPattern().fault;
    }

    public int size() {
        Reader reader = readPattern();
        return reader.fault == 0 ? reader.whole.weight() : NONE;
    }

    public int strings() {
        Reader reader = readPattern();
        if (reader.fault != 0) {
            return FAULTY;
        }
        Words words = reader.whole.words;
        return words == null ? NONE : words.count;
    }

    public int search() {
        Reader reader = readPattern();
        if (reader.fault != 0) {
            return -reader.fault;
        }
        hitCount = 0;
        possibleNames = 0;
        for (int name = 0; name < NAMES; name++) {
            Version version = named[name];
            if (version != null && reader.whole.mayBeIn(version)) {
                possibleNames |= 1 << name;
                findHits(reader.whole, version.text, name);
            }
        }
        return hitCount;
    }

    public int possible() {
        return possibleNames;
    }

    public int hit(int k) {
        return k >= 0 && k < hitCount ? hits[k] : NONE;
    }

    public int shards() {
        return sealed.size();
    }

    public int shard(int k, int what) {
        Shard chosen = null;
        if (k == -1) {
            chosen = open;
        } else if (k >= 0 && k < sealed.size()) {
            chosen = sealed.get(k);
        }
        if (chosen == null) {
            return NONE;
        }
        switch (what) {
            case 0:
                return chosen.level;
            case 1:
                return chosen.count();
            case 2:
                return chosen.countLive();
            default:
                return NONE;
        }
    }

    public int postings(int a, int b, int c) {
        if (!isCharacter(a) || !isCharacter(b) || !isCharacter(c)) {
            return 0;
        }
        int sum = open.countHaving(a, b, c);
        for (int k = 0; k < sealed.size(); k++) {
            sum += sealed.get(k).countHaving(a, b, c);
        }
        return sum;
    }

    public int compact() {
        if (open.count() > 0) {
            sealOpen();
        }
        int merges = 0;
        int before = sealed.size();
        for (int k = 1; k < before && sealed.size() >= 2; k++) {
            mergeNewest();
            merges++;
        }
        return merges;
    }

    public int left() {
        return takenOut;
    }

    private static boolean isName(int name) {
        return name >= 0 && name < NAMES;
    }

    private static boolean isPrinted(int code) {
        return code >= FIRST_PRINTED && code <= LAST_PRINTED;
    }

    private static boolean isCharacter(int code) {
        return code == NEWLINE || isPrinted(code);
    }

    private static long placesBelow(int end) {
        return (1L << end) - 1;
    }

    /** Answers whether there was a live version under the name. */
    private boolean retire(int name) {
        Version version = named[name];
        if (version == null) {
            return false;
        }
        version.live = false;
        named[name] = null;
        return true;
    }

    private void sealOpen() {
        sealed.add(open);
        open = new Shard(0);
    }

    private void settle() {
        int before = sealed.size();
        for (int k = 1; k < before && newestAreAlike(); k++) {
            mergeNewest();
        }
    }

    private boolean newestAreAlike() {
        int count = sealed.size();
        return count >= 2 && sealed.get(count - 1).level == sealed.get(count - 2).level;
    }

    private void mergeNewest() {
        int count = sealed.size();
        if (count < 2) {
            return;
        }
        Shard newer = sealed.remove(count - 1);
        Shard older = sealed.remove(count - 2);
        Shard merged = new Shard(Math.max(older.level, newer.level) + 1);
        merged.addLive(older);
        merged.addLive(newer);
        takenOut += older.count() + newer.count() - merged.count();
        if (merged.count() > 0) {
            sealed.add(merged);
        }
    }

    private Reader readPattern() {
        if (latestReader == null) {
            latestReader = new Reader(pattern, patternLength);
            latestReader.read();
        }
        return latestReader;
    }

    private void findHits(Group whole, char[] text, int name) {
        int line = 0;
        int start = 0;
        for (int at = 0; at <= text.length; at++) {
            if (at == text.length || text[at] == NEWLINE) {
                findHit(whole, text, start, at, name * 16777216 + line * 65536);
                line++;
                start = at + 1;
            }
        }
    }

    private void findHit(Group whole, char[] text, int start, int end, int nameAndLine) {
        whole.enterLine(text, start, end);
        int i = leastStart(whole, end - start);
        if (i == NONE || hitCount >= hits.length) {
            return;
        }
        int j = 63 - Long.numberOfLeadingZeros(whole.reach(1L << i));
        hits[hitCount] = nameAndLine + i * 256 + j;
        hitCount++;
    }

    /** The pattern is asked for many places at once, as that costs no more than asking for one. */
    private static int leastStart(Group whole, int lineLength) {
        if (whole.reach(placesBelow(lineLength + 1)) == 0) {
            return NONE;
        }
        int i = 0;
        for (int step = 32; step > 0; step /= 2) {
            if (i + step <= lineLength && whole.reach(placesBelow(i + step)) == 0) {
                i += step;
            }
        }
        return i;
    }

    /** A text that was put under a name. */
    private static final class Version {
        final char[] text;
        boolean live = true;

        Version(char[] source, int length) {
            text = new char[length];
            System.arraycopy(source, 0, text, 0, length);
        }

        boolean has(int a, int b, int c) {
            for (int at = 0; at + 2 < text.length; at++) {
                if (text[at] == a && text[at + 1] == b && text[at + 2] == c) {
                    return true;
                }
            }
            return false;
        }

        boolean allows(Words words) {
            for (int k = 0; k < words.count; k++) {
                if (hasTrigramsOf(words, k)) {
                    return true;
                }
            }
            return false;
        }

        private boolean hasTrigramsOf(Words words, int k) {
            for (int at = 0; at + 2 < words.lengthOf(k); at++) {
                if (!has(words.letter(k, at), words.letter(k, at + 1), words.letter(k, at + 2))) {
                    return false;
                }
            }
            return true;
        }
    }

    /** Versions, live or not, that are merged as one. */
    private static final class Shard {
        final int level;
        private final ArrayList<Version> versions = new ArrayList<>();

        Shard(int level) {
            this.level = level;
        }

        void add(Version version) {
            versions.add(version);
        }

        void addLive(Shard other) {
            for (int k = 0; k < other.versions.size(); k++) {
                if (other.versions.get(k).live) {
                    versions.add(other.versions.get(k));
                }
            }
        }

        int count() {
            return versions.size();
        }

        int countLive() {
            int sum = 0;
            for (int k = 0; k < versions.size(); k++) {
                sum += versions.get(k).live ? 1 : 0;
            }
            return sum;
        }

        int countHaving(int a, int b, int c) {
            int sum = 0;
            for (int k = 0; k < versions.size(); k++) {
                sum += versions.get(k).has(a, b, c) ? 1 : 0;
            }
            return sum;
        }
    }

    /** A list of different strings, known to be short and few: a list that fits. */
    private static final class Words {
        static final int MOST = 4;
        static final int LONGEST = 12;

        /** One row more than the list may have: a string is written there before it is compared. */
        private final char[] letters = new char[(MOST + 1) * LONGEST];
        private final int[] lengths = new int[MOST + 1];
        int count;

        static Words ofEmptyString() {
            Words words = new Words();
            words.count = 1;
            return words;
        }

        int lengthOf(int k) {
            return lengths[k];
        }

        char letter(int k, int at) {
            return letters[k * LONGEST + at];
        }

        /** Answers whether the list still fits. */
        boolean addLetter(char c) {
            letters[count * LONGEST] = c;
            lengths[count] = 1;
            return keepWritten();
        }

        /** Adds the join of two lists and answers whether this list still fits. */
        boolean addJoin(Words first, Words second) {
            for (int i = 0; i < first.count; i++) {
                for (int j = 0; j < second.count; j++) {
                    if (first.lengths[i] + second.lengths[j] > LONGEST) {
                        return false;
                    }
                    int start = count * LONGEST;
                    int middle = start + first.lengths[i];
                    System.arraycopy(first.letters, i * LONGEST, letters, start, first.lengths[i]);
                    System.arraycopy(second.letters, j * LONGEST, letters, middle, second.lengths[j]);
                    lengths[count] = first.lengths[i] + second.lengths[j];
                    if (!keepWritten()) {
                        return false;
                    }
                }
            }
            return true;
        }

        private boolean keepWritten() {
            for (int k = 0; k < count; k++) {
                if (isWritten(k)) {
                    return true;
                }
            }
            if (count >= MOST) {
                return false;
            }
            count++;
            return true;
        }

        private boolean isWritten(int k) {
            if (lengths[k] != lengths[count]) {
                return false;
            }
            for (int at = 0; at < lengths[k]; at++) {
                if (letter(k, at) != letter(count, at)) {
                    return false;
                }
            }
            return true;
        }
    }

    /** What a text must be to be possible for parts that stand one behind the other. */
    private static final class Needs {
        private final ArrayList<Words> allowed = new ArrayList<>();
        private final ArrayList<Part> parts = new ArrayList<>();
        private Words current = Words.ofEmptyString();
        private boolean allJoined = true;

        void follow(Part part) {
            Words words = part.words;
            if (words != null) {
                Words join = new Words();
                if (join.addJoin(current, words)) {
                    current = join;
                    return;
                }
            }
            allJoined = false;
            allowed.add(current);
            if (words != null) {
                current = words;
            } else {
                parts.add(part);
                current = Words.ofEmptyString();
            }
        }

        /** Null when it is UNKNOWN. */
        Words joined() {
            return allJoined ? current : null;
        }

        boolean areMetBy(Version version) {
            for (int k = 0; k < allowed.size(); k++) {
                if (!version.allows(allowed.get(k))) {
                    return false;
                }
            }
            for (int k = 0; k < parts.size(); k++) {
                if (!parts.get(k).mayBeIn(version)) {
                    return false;
                }
            }
            return version.allows(current);
        }
    }

    /**
     * A part of a pattern. The methods call themselves on the parts inside: with 24 characters and
     * six open groups, of which the reader refuses more, that goes 26 levels deep at the most.
     */
    private abstract static class Part {
        /** STRINGS of this part, null when it is UNKNOWN; not set before learnWords. */
        Words words;

        /** The document's size. */
        abstract int weight();

        abstract void learnWords();

        /** Whether the text is possible for this part. */
        abstract boolean mayBeIn(Version version);

        abstract void enterLine(char[] text, int start, int end);

        /** All places of the line to which this part matches from one of the given places. */
        abstract long reach(long from);
    }

    /** A set of characters. */
    private static final class CharacterSet extends Part {
        /** Bit c is for the character c. */
        private long below64;
        /** Bit c - 64 is for the character c. */
        private long from64;
        private long places;

        void list(char first, char last) {
            for (int c = first; c <= last; c++) {
                if (c < 64) {
                    below64 |= 1L << c;
                } else {
                    from64 |= 1L << (c - 64);
                }
            }
        }

        void turnOver() {
            long listedBelow64 = below64;
            long listedFrom64 = from64;
            list(FIRST_PRINTED, LAST_PRINTED);
            below64 &= ~listedBelow64;
            from64 &= ~listedFrom64;
        }

        private boolean contains(int c) {
            return ((c < 64 ? below64 >> c : from64 >> (c - 64)) & 1) != 0;
        }

        int weight() {
            return 1;
        }

        void learnWords() {
            if (Long.bitCount(below64) + Long.bitCount(from64) > Words.MOST) {
                return;
            }
            words = new Words();
            for (char c = FIRST_PRINTED; c <= LAST_PRINTED; c++) {
                if (contains(c)) {
                    words.addLetter(c);
                }
            }
        }

        boolean mayBeIn(Version version) {
            return words == null || version.allows(words);
        }

        void enterLine(char[] text, int start, int end) {
            places = 0;
            for (int at = start; at < end; at++) {
                if (contains(text[at])) {
                    places |= 1L << (at - start);
                }
            }
        }

        long reach(long from) {
            return (from & places) << 1;
        }
    }

    /** The anchor of a line's start or of its end. */
    private static final class Anchor extends Part {
        private final boolean isStart;
        private long places;

        Anchor(boolean isStart) {
            this.isStart = isStart;
        }

        int weight() {
            return 1;
        }

        void learnWords() {
            words = Words.ofEmptyString();
        }

        boolean mayBeIn(Version version) {
            return true;
        }

        void enterLine(char[] text, int start, int end) {
            places = isStart ? 1L : 1L << (end - start);
        }

        long reach(long from) {
            return from & places;
        }
    }

    /** A piece that stands several times, one behind the other. */
    private static final class Repetition extends Part {
        static final int ENDLESS = -1;

        private final Part part;
        private final int least;
        private final int most;
        private final Needs needs = new Needs();
        /**
         * For each place all that any number of the part reaches from it; null unless endless. It is
         * kept for a line, since repetitions inside one another would ask for it again and again.
         */
        private final long[] closure;
        private boolean closureIsKnown;
        private int lineLength;

        Repetition(Part part, int least, int most) {
            this.part = part;
            this.least = least;
            this.most = most;
            closure = most == ENDLESS ? new long[MOST_PLACES] : null;
        }

        int weight() {
            int times = most == ENDLESS ? Math.max(least, 1) : most;
            return times * (part.weight() + 1);
        }

        void learnWords() {
            part.learnWords();
            for (int k = 0; k < least; k++) {
                needs.follow(part);
            }
            words = least == most ? needs.joined() : null;
        }

        boolean mayBeIn(Version version) {
            return needs.areMetBy(version);
        }

        void enterLine(char[] text, int start, int end) {
            part.enterLine(text, start, end);
            closureIsKnown = false;
            lineLength = end - start;
        }

        long reach(long from) {
            long reached = from;
            for (int k = 0; k < least && reached != 0; k++) {
                reached = part.reach(reached);
            }
            if (closure == null) {
                return reachUpTo(most - least, reached);
            }
            if (!closureIsKnown) {
                learnClosure();
            }
            return reachClosure(reached);
        }

        private long reachUpTo(int times, long from) {
            long reached = from;
            long fresh = from;
            for (int k = 0; k < times && fresh != 0; k++) {
                fresh = part.reach(fresh) & ~reached;
                reached |= fresh;
            }
            return reached;
        }

        /** From the last place to the first, as no part reaches a place before its own. */
        private void learnClosure() {
            for (int place = lineLength; place >= 0; place--) {
                long own = 1L << place;
                closure[place] = own | reachClosure(part.reach(own) & ~own);
            }
            closureIsKnown = true;
        }

        private long reachClosure(long from) {
            long reached = 0;
            long rest = from;
            for (int k = 0; k < MOST_PLACES && rest != 0; k++) {
                reached |= closure[Long.numberOfTrailingZeros(rest)];
                // What a place inside the closure reaches is in the closure as well.
                rest &= ~reached;
            }
            return reached;
        }
    }

    /** Pieces one behind the other. */
    private static final class Branch extends Part {
        private final ArrayList<Part> pieces = new ArrayList<>();
        private final Needs needs = new Needs();

        boolean isBare() {
            return pieces.isEmpty();
        }

        void add(Part piece) {
            pieces.add(piece);
        }

        boolean mayRepeatLatest() {
            return !pieces.isEmpty() && !(pieces.get(pieces.size() - 1) instanceof Anchor);
        }

        void repeatLatest(int least, int most) {
            int latest = pieces.size() - 1;
            if (latest >= 0) {
                pieces.set(latest, new Repetition(pieces.get(latest), least, most));
            }
        }

        int weight() {
            int sum = 0;
            for (int k = 0; k < pieces.size(); k++) {
                sum += pieces.get(k).weight();
            }
            return sum;
        }

        void learnWords() {
            for (int k = 0; k < pieces.size(); k++) {
                pieces.get(k).learnWords();
                needs.follow(pieces.get(k));
            }
            words = needs.joined();
        }

        boolean mayBeIn(Version version) {
            return needs.areMetBy(version);
        }

        void enterLine(char[] text, int start, int end) {
            for (int k = 0; k < pieces.size(); k++) {
                pieces.get(k).enterLine(text, start, end);
            }
        }

        long reach(long from) {
            long reached = from;
            for (int k = 0; k < pieces.size() && reached != 0; k++) {
                reached = pieces.get(k).reach(reached);
            }
            return reached;
        }
    }

    /** A group or a whole pattern: branches of which one must match. */
    private static final class Group extends Part {
        private final ArrayList<Branch> branches = new ArrayList<>();
        /** The branch that is being read. */
        Branch latest;

        Group() {
            beginBranch();
        }

        void beginBranch() {
            latest = new Branch();
            branches.add(latest);
        }

        int weight() {
            int sum = branches.size() - 1;
            for (int k = 0; k < branches.size(); k++) {
                sum += branches.get(k).weight();
            }
            return sum;
        }

        void learnWords() {
            Words all = new Words();
            Words before = Words.ofEmptyString();
            boolean known = true;
            for (int k = 0; k < branches.size(); k++) {
                Branch branch = branches.get(k);
                branch.learnWords();
                known = known && branch.words != null && all.addJoin(before, branch.words);
            }
            words = known ? all : null;
        }

        boolean mayBeIn(Version version) {
            for (int k = 0; k < branches.size(); k++) {
                if (branches.get(k).mayBeIn(version)) {
                    return true;
                }
            }
            return false;
        }

        void enterLine(char[] text, int start, int end) {
            for (int k = 0; k < branches.size(); k++) {
                branches.get(k).enterLine(text, start, end);
            }
        }

        long reach(long from) {
            long reached = 0;
            for (int k = 0; k < branches.size(); k++) {
                reached |= branches.get(k).reach(from);
            }
            return reached;
        }
    }

    /** Reads a pattern from left to right, up to its first fault. */
    private static final class Reader {
        private static final char NO_CHARACTER = 0;
        private static final int CLASS_LENGTH = 9;

        final Group whole = new Group();
        int fault;
        private final char[] pattern;
        private final int end;
        private int at;
        /** The whole pattern and the open groups in it, each inside the one before it. */
        private final Group[] groups = new Group[MOST_OPEN_GROUPS + 1];
        private int openGroups;

        Reader(char[] pattern, int end) {
            this.pattern = pattern;
            this.end = end;
            groups[0] = whole;
        }

        void read() {
            for (int k = 0; k < end && at < end && fault == 0; k++) {
                char c = pattern[at];
                at++;
                readFrom(c);
            }
            if (fault == 0) {
                fault = faultAtEnd();
            }
            if (fault == 0) {
                whole.learnWords();
            }
        }

        private int faultAtEnd() {
            if (openGroups > 0) {
                return GROUP;
            }
            if (whole.latest.isBare()) {
                return EMPTY;
            }
            return whole.weight() > GREATEST_SIZE ? SIZE : 0;
        }

        private void readFrom(char c) {
            if (c == '(') {
                openGroup();
            } else if (c == ')') {
                closeGroup();
            } else if (c == '|') {
                readBar();
            } else if (c == '*' || c == '+' || c == '?' || c == '{') {
                readRepetition(c);
            } else if (c == '\\') {
                readEscape();
            } else if (c == '^' || c == '$') {
                branch().add(new Anchor(c == '^'));
            } else if (c == '.') {
                addSet(FIRST_PRINTED, LAST_PRINTED);
            } else if (c == '[') {
                readSet();
            } else {
                addSet(c, c);
            }
        }

        private Branch branch() {
            return groups[openGroups].latest;
        }

        private char peek(int place) {
            return place < end ? pattern[place] : NO_CHARACTER;
        }

        private void addSet(char first, char last) {
            CharacterSet set = new CharacterSet();
            set.list(first, last);
            branch().add(set);
        }

        private void openGroup() {
            if (openGroups >= MOST_OPEN_GROUPS) {
                fault = DEPTH;
                return;
            }
            openGroups++;
            groups[openGroups] = new Group();
        }

        private void closeGroup() {
            if (openGroups == 0) {
                fault = GROUP;
            } else if (branch().isBare()) {
                fault = EMPTY;
            } else {
                Group closed = groups[openGroups];
                openGroups--;
                branch().add(closed);
            }
        }

        private void readBar() {
            if (branch().isBare()) {
                fault = EMPTY;
            } else {
                groups[openGroups].beginBranch();
            }
        }

        private void readRepetition(char c) {
            if (!branch().mayRepeatLatest()) {
                fault = REPEAT;
            } else if (c == '*') {
                branch().repeatLatest(0, Repetition.ENDLESS);
            } else if (c == '+') {
                branch().repeatLatest(1, Repetition.ENDLESS);
            } else if (c == '?') {
                branch().repeatLatest(0, 1);
            } else {
                readBraces();
            }
        }

        private void readBraces() {
            int least = digit(at);
            int most = digit(at + 2);
            if (least == NONE) {
                fault = BRACES;
            } else if (peek(at + 1) == '}') {
                branch().repeatLatest(least, least);
                at += 2;
            } else if (peek(at + 1) != ',') {
                fault = BRACES;
            } else if (peek(at + 2) == '}') {
                branch().repeatLatest(least, Repetition.ENDLESS);
                at += 3;
            } else if (most >= least && peek(at + 3) == '}') {
                branch().repeatLatest(least, most);
                at += 4;
            } else {
                fault = BRACES;
            }
        }

        private int digit(int place) {
            char c = peek(place);
            return c >= '0' && c <= '9' ? c - '0' : NONE;
        }

        private void readEscape() {
            char c = peek(at);
            if ("^.[$()|*+?{\\".indexOf(c) < 0) {
                fault = ESCAPE;
            } else {
                addSet(c, c);
                at++;
            }
        }

        private void readSet() {
            CharacterSet set = new CharacterSet();
            boolean listsOthers = peek(at) == '^';
            if (listsOthers) {
                at++;
            }
            for (int item = 0; item < end && at < end && fault == 0; item++) {
                if (item > 0 && pattern[at] == ']') {
                    at++;
                    if (listsOthers) {
                        set.turnOver();
                    }
                    branch().add(set);
                    return;
                }
                readItem(set);
            }
            if (fault == 0) {
                fault = BRACKET;
            }
        }

        private void readItem(CharacterSet set) {
            char x = peek(at);
            char next = peek(at + 1);
            char y = peek(at + 2);
            if (x == '[' && next == ':') {
                readClass(set);
            } else if (x == '[' && (next == '.' || next == '=')) {
                fault = COLLATING;
            } else if (next != '-' || y == ']' || y == NO_CHARACTER) {
                set.list(x, x);
                at++;
            } else if (y < x) {
                fault = BRACKET;
            } else {
                set.list(x, y);
                at += 3;
            }
        }

        private void readClass(CharacterSet set) {
            boolean all = stands("[:alpha:]");
            boolean lower = all || stands("[:lower:]");
            boolean upper = all || stands("[:upper:]");
            boolean digits = stands("[:digit:]");
            if (lower) {
                set.list('a', 'z');
            }
            if (upper) {
                set.list('A', 'Z');
            }
            if (digits) {
                set.list('0', '9');
            }
            if (lower || upper || digits) {
                at += CLASS_LENGTH;
            } else {
                fault = BRACKET;
            }
        }

        private boolean stands(String expected) {
            for (int k = 0; k < expected.length(); k++) {
                if (peek(at + k) != expected.charAt(k)) {
                    return false;
                }
            }
            return true;
        }
    }
}
