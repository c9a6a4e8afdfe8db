/**
 * Tells which paths a list of rules leaves out: the last rule that fits decides,
 * and what lies under a directory that is left out is left out, too.
 */
public final class IgnoreRules {
    public static final int NONE = -1;

    private static final int TAPE_LIMIT = 1000;
    private static final int RULE_LIMIT = 60;
    private static final int PATH_LIMIT = 120;
    private static final int PATH_NAMES_LIMIT = 20;
    private static final int BYTES_IN_LONG = 8;

    private static final int TURNED = 1;
    private static final int DIRECTORIES = 2;
    private static final int BOUND = 4;
    private static final int VOID = 8;

    private static final int WHAT_BITS = 0;
    private static final int WHAT_NAMES = 1;
    private static final int WHAT_LINE = 2;

    private final char[] tape;
    private int tapeLength;
    private RuleList rules;
    // A reading that is refused must leave the rules as they are, so it is tried in here.
    private RuleList spare;
    private final Path current;
    private final Matcher matcher;

    public IgnoreRules() {
        tape = new char[TAPE_LIMIT];
        rules = new RuleList();
        spare = new RuleList();
        current = new Path();
        matcher = new Matcher();
    }

    public int feed(int n, long bytes) throws IllegalArgumentException {
        if (n < 1 || n > BYTES_IN_LONG) {
            throw new IllegalArgumentException("n is not 1 to 8");
        }
        if (tapeLength + n > TAPE_LIMIT) {
            return NONE;
        }
        for (int i = 0; i < n; i++) {
            tape[tapeLength + i] = (char) ((bytes >>> (8 * i)) & 0xFF);
        }
        tapeLength += n;
        return tapeLength;
    }

    public int wipe() {
        int had = tapeLength;
        tapeLength = 0;
        return had;
    }

    public int read() {
        if (!spare.load(tape, tapeLength)) {
            return NONE;
        }
        RuleList old = rules;
        rules = spare;
        spare = old;
        tapeLength = 0;
        return rules.count;
    }

    public int rule(int i, int what) throws IndexOutOfBoundsException, IllegalArgumentException {
        requireRule(i);
        if (what == WHAT_BITS) {
            return rules.bits[i];
        }
        if (what == WHAT_NAMES) {
            return rules.countNames(i);
        }
        if (what == WHAT_LINE) {
            return rules.lines[i];
        }
        throw new IllegalArgumentException("what is not 0 to 2");
    }

    public int path() {
        if (!current.load(tape, tapeLength)) {
            return NONE;
        }
        tapeLength = 0;
        return current.count;
    }

    public boolean fits(int i, boolean directory) throws IndexOutOfBoundsException, IllegalStateException {
        requireRule(i);
        requirePath();
        return matcher.ruleFits(rules, i, current, current.count, directory);
    }

    public boolean out(boolean directory) throws IllegalStateException {
        requirePath();
        return decidingDepth() < current.count || leavesOut(lastFitting(current.count, directory));
    }

    public int by(boolean directory) throws IllegalStateException {
        requirePath();
        int deciding = decidingDepth();
        return lastFitting(deciding, deciding < current.count || directory);
    }

    public int depth(boolean directory) throws IllegalStateException {
        requirePath();
        return decidingDepth();
    }

    public int many(boolean directory) throws IllegalStateException {
        requirePath();
        int found = 0;
        for (int i = 0; i < rules.count; i++) {
            if (matcher.ruleFits(rules, i, current, current.count, directory)) {
                found++;
            }
        }
        return found;
    }

    public boolean name(int i, int k, int j) throws IndexOutOfBoundsException, IllegalStateException {
        requireRule(i);
        if (k < 0 || k >= rules.countNames(i)) {
            throw new IndexOutOfBoundsException("no such name in the rule");
        }
        requirePath();
        if (j < 0 || j >= current.count) {
            throw new IndexOutOfBoundsException("no such name in the path");
        }
        int from = rules.nameStart(i, k);
        // A deep name needs no case of its own here: taken as stars, it fits any name.
        return matcher.nameFits(rules.text, from, rules.nameEnd(i, from), current, j);
    }

    private void requireRule(int i) {
        if (i < 0 || i >= rules.count) {
            throw new IndexOutOfBoundsException("no such rule");
        }
    }

    private void requirePath() {
        if (current.count == 0) {
            throw new IllegalStateException("there is no path");
        }
    }

    /** How many first names tell the first directory that is left out; all of them if there is none. */
    private int decidingDepth() {
        for (int names = 1; names < current.count; names++) {
            if (leavesOut(lastFitting(names, true))) {
                return names;
            }
        }
        return current.count;
    }

    private int lastFitting(int names, boolean directory) {
        for (int i = rules.count - 1; i >= 0; i--) {
            if (matcher.ruleFits(rules, i, current, names, directory)) {
                return i;
            }
        }
        return NONE;
    }

    private boolean leavesOut(int i) {
        return i != NONE && (rules.bits[i] & TURNED) == 0;
    }

    /** The rules of one tape: a copy of its bytes, and where in them each rule's pattern stands. */
    private static final class RuleList {
        private final char[] text;
        private final int[] starts;
        private final int[] ends;
        private final int[] bits;
        private final int[] lines;
        private int count;

        private RuleList() {
            text = new char[TAPE_LIMIT];
            starts = new int[RULE_LIMIT];
            ends = new int[RULE_LIMIT];
            bits = new int[RULE_LIMIT];
            lines = new int[RULE_LIMIT];
        }

        /** False if there are too many rules; what the list holds is of no use then. */
        private boolean load(char[] source, int length) {
            for (int at = 0; at < length; at++) {
                text[at] = source[at];
            }
            count = 0;
            int line = 0;
            int from = 0;
            for (int at = 0; at <= length; at++) {
                if (at < length && text[at] != '\n') {
                    continue;
                }
                int to = withoutBlanks(from, at);
                if (from < to && text[from] != '#') {
                    if (count == RULE_LIMIT) {
                        return false;
                    }
                    add(from, to, line);
                }
                line++;
                from = at + 1;
            }
            return true;
        }

        private int withoutBlanks(int from, int to) {
            int end = to;
            while (end > from && text[end - 1] == ' ' && !isEscaped(from, end - 1)) {
                end--;
            }
            return end;
        }

        /** Whether an odd number of \ stands right before a byte. */
        private boolean isEscaped(int from, int at) {
            int before = at;
            while (before > from && text[before - 1] == '\\') {
                before--;
            }
            return (at - before) % 2 == 1;
        }

        private void add(int lineStart, int lineEnd, int line) {
            int from = lineStart;
            int to = lineEnd;
            int found = 0;
            if (text[from] == '!') {
                found |= TURNED;
                from++;
            }
            if (from < to && text[to - 1] == '/' && !isEscaped(from, to - 1)) {
                found |= DIRECTORIES;
                to--;
            }
            if (endOfName(from, to) < to) {
                found |= BOUND;
                if (text[from] == '/') {
                    from++;
                }
            }
            if (hasVoidName(from, to)) {
                found |= VOID;
            }
            starts[count] = from;
            ends[count] = to;
            bits[count] = found;
            lines[count] = line;
            count++;
        }

        private boolean hasVoidName(int start, int end) {
            int from = start;
            for (int at = start; at <= end; at++) {
                if (at == end || text[at] == '/') {
                    if (!Items.areWhole(text, from, at)) {
                        return true;
                    }
                    from = at + 1;
                }
            }
            return false;
        }

        private int endOfName(int from, int end) {
            for (int at = from; at < end; at++) {
                if (text[at] == '/') {
                    return at;
                }
            }
            return end;
        }

        private int countNames(int i) {
            int names = 1;
            for (int at = starts[i]; at < ends[i]; at++) {
                if (text[at] == '/') {
                    names++;
                }
            }
            return names;
        }

        private int nameStart(int i, int k) {
            int skipped = 0;
            int from = starts[i];
            for (int at = starts[i]; at < ends[i] && skipped < k; at++) {
                if (text[at] == '/') {
                    skipped++;
                    from = at + 1;
                }
            }
            return from;
        }

        private int nameEnd(int i, int from) {
            return endOfName(from, ends[i]);
        }
    }

    /** The items of a pattern's name: a star, a question mark, a set, or a byte. */
    private static final class Items {
        private static boolean areWhole(char[] text, int from, int to) {
            for (int at = from; at < to; at++) {
                int last = lastByte(text, at, to);
                if (last < at) {
                    return false;
                }
                at = last;
            }
            return from < to;
        }

        /** Where the item that begins at a byte has its last one; NONE if the name ends within it. */
        private static int lastByte(char[] text, int at, int to) {
            if (text[at] == '\\') {
                return at + 1 < to ? at + 1 : NONE;
            }
            if (text[at] != '[') {
                return at;
            }
            boolean turned = at + 1 < to && (text[at + 1] == '!' || text[at + 1] == '^');
            int first = turned ? at + 2 : at + 1;
            for (int inside = first; inside < to; inside++) {
                if (text[inside] == ']' && inside > first) {
                    return inside;
                }
                if (text[inside] == '\\') {
                    inside++;
                }
            }
            return NONE;
        }

        /** Whether the item from at to last, which is whole and no star, takes a byte. */
        private static boolean take(char[] text, int at, int last, char one) {
            if (text[at] == '?') {
                return true;
            }
            if (text[at] != '[') {
                return text[last] == one;
            }
            boolean turned = text[at + 1] == '!' || text[at + 1] == '^';
            boolean found = false;
            for (int inside = turned ? at + 2 : at + 1; inside < last; inside++) {
                if (text[inside] == '\\') {
                    inside++;
                }
                char low = text[inside];
                char high = low;
                if (inside + 2 < last && text[inside + 1] == '-') {
                    inside += text[inside + 2] == '\\' ? 3 : 2;
                    high = text[inside];
                }
                if (low <= one && one <= high) {
                    found = true;
                }
            }
            return found != turned;
        }
    }

    /** Names with / between; none of them when there is no path. */
    private static final class Path {
        private final char[] bytes;
        // One more than there are names: name j ends one byte before the start of name j + 1.
        private final int[] starts;
        private int count;

        private Path() {
            bytes = new char[PATH_LIMIT];
            starts = new int[PATH_NAMES_LIMIT + 1];
        }

        private boolean load(char[] source, int length) {
            count = 0;
            if (length > PATH_LIMIT) {
                return false;
            }
            int names = 0;
            for (int at = 0; at <= length; at++) {
                if (at < length && source[at] != '/') {
                    if (source[at] == '\n') {
                        return false;
                    }
                    bytes[at] = source[at];
                    continue;
                }
                if (at == starts[names] || names == PATH_NAMES_LIMIT) {
                    return false;
                }
                names++;
                starts[names] = at + 1;
            }
            count = names;
            return true;
        }

        private int lengthOf(int j) {
            return starts[j + 1] - 1 - starts[j];
        }
    }

    /**
     * Lays rules and names beside a path. Both work on a row that tells, for each number of names
     * (or bytes) of the path, whether what has been gone through so far can take up just that many:
     * so no choice of a star is ever tried twice, and every loop ends with its row.
     */
    private static final class Matcher {
        private final boolean[] namesTaken;
        private final boolean[] bytesTaken;

        private Matcher() {
            namesTaken = new boolean[PATH_NAMES_LIMIT + 1];
            bytesTaken = new boolean[PATH_LIMIT + 1];
        }

        /** Whether a rule fits what the first names of a path tell. */
        private boolean ruleFits(RuleList rules, int i, Path path, int names, boolean directory) {
            int bits = rules.bits[i];
            if ((bits & VOID) != 0 || ((bits & DIRECTORIES) != 0 && !directory)) {
                return false;
            }
            boolean bound = (bits & BOUND) != 0;
            // A rule that is not bound has one name, which is for the path's last one alone.
            startRow(namesTaken, names, bound ? 0 : names - 1);
            boolean deep = false;
            int from = rules.starts[i];
            int end = rules.ends[i];
            for (int at = from; at <= end; at++) {
                if (at == end || rules.text[at] == '/') {
                    deep = bound && isDeep(rules.text, from, at);
                    if (deep) {
                        spread(namesTaken, names);
                    } else {
                        takeName(rules.text, from, at, path, names, at == end);
                    }
                    from = at + 1;
                }
            }
            // A deep name at the end takes one name at least, so those before it must do with one fewer.
            return namesTaken[deep ? names - 1 : names];
        }

        private static boolean isDeep(char[] text, int from, int to) {
            return to - from == 2 && text[from] == '*' && text[from + 1] == '*';
        }

        private void takeName(char[] text, int from, int to, Path path, int names, boolean isLast) {
            // With the last name all of the path must be taken up: no smaller number is asked for then.
            int fewest = isLast ? names : 1;
            for (int j = names; j >= fewest; j--) {
                namesTaken[j] = namesTaken[j - 1] && nameFits(text, from, to, path, j - 1);
            }
            namesTaken[0] = false;
        }

        /** Whether a pattern's name fits name j of a path; one that is void does not. */
        private boolean nameFits(char[] text, int from, int to, Path path, int j) {
            int start = path.starts[j];
            int length = path.lengthOf(j);
            startRow(bytesTaken, length, 0);
            for (int at = from; at < to; at++) {
                int last = Items.lastByte(text, at, to);
                if (last < at) {
                    return false;
                }
                if (text[at] == '*') {
                    spread(bytesTaken, length);
                } else {
                    boolean some = false;
                    for (int taken = length; taken > 0; taken--) {
                        bytesTaken[taken] = bytesTaken[taken - 1]
                                && Items.take(text, at, last, path.bytes[start + taken - 1]);
                        some = some || bytesTaken[taken];
                    }
                    bytesTaken[0] = false;
                    if (!some) {
                        return false;
                    }
                }
                at = last;
            }
            return bytesTaken[length];
        }

        private static void startRow(boolean[] row, int length, int first) {
            for (int taken = 0; taken <= length; taken++) {
                row[taken] = taken == first;
            }
        }

        /** What can take up some of the row can take up any more of it, too. */
        private static void spread(boolean[] row, int length) {
            for (int taken = 1; taken <= length; taken++) {
                row[taken] = row[taken] || row[taken - 1];
            }
        }
    }
}
