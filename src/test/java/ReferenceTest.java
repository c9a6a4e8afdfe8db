import java.util.Random;
import java.util.function.LongSupplier;

/**
 * The class and the reference side by side: made-up runs of calls, the same each time, and every short line of the
 * bytes that mean something.
 */
public final class ReferenceTest {
    private static final int RUNS = 1500;
    private static final int CALLS = 512;
    private static final String[] PIECES = {"a", "b", "c", "ab", "a", "b", "*", "**", "?", "[", "]", "[ab]", "[!a]",
        "[^b]", "[a-c]", "[]", "[!]", "-", "!", "^", "\\", "\\", "#", " ", " ", "/", "/", "/", "/", "\n", "\n", "\n",
        "\n", "/**/", "**/", "/**", "\n!", "/\n", " \n", "\\ ", "\\\n", "\u00ff", "\u0080-\u00ff", "\u0000"};
    private static final String[] PATH_PIECES = {"a", "b", "c", "ab", "a", "b", "/", "/", "/", "]", "-", "*", "\\",
        " ", "!", "\u00ff", "\u0085", "\u0000"};
    private static final String MEANINGS = "ab*?/\\[]!^- #";
    private static final int SHORT_LINE = 3;
    private static final String[] SHORT_PATHS = {"a", "b", "ab", "a/b", "b/a/b", "]", "-", "\\", "[", "!", "^", "a]",
        " ", "a ", "#", "*", "a/*/b", "]/a"};

    private final Random random;
    private final IgnoreRules x = new IgnoreRules();
    private final Reference y = new Reference();
    private int calls = 0;
    private int rules = 0;
    private int names = 0;

    private ReferenceTest(long seed) {
        random = new Random(seed);
    }

    public static void main(String[] args) {
        for (int seed = 0; seed < RUNS; seed++) {
            new ReferenceTest(seed).run(seed);
        }
        shortLines("");
        Checks.end();
    }

    /** Tries a line, and all that begin with it. */
    private static void shortLines(String line) {
        new ReferenceTest(0).runLine(line);
        for (int i = 0; line.length() < SHORT_LINE && i < MEANINGS.length(); i++) {
            shortLines(line + MEANINGS.charAt(i));
        }
    }

    private void runLine(String line) {
        String run = "the line " + line + ": ";
        feed(run, line);
        rules = (int) both(run + "read()", x::read, y::read);
        for (int what = 0; what < 3; what++) {
            int asked = what;
            both(run + "rule, " + what, () -> x.rule(0, asked), () -> y.rule(0, asked));
        }
        for (String path : rules == 0 ? new String[0] : SHORT_PATHS) {
            feed(run, path);
            names = (int) both(run + "path()", x::path, y::path);
            askLine(run + path + ", ");
        }
    }

    private void askLine(String run) {
        for (boolean d : new boolean[] {false, true}) {
            both(run + d + ": fits", () -> x.fits(0, d) ? 1 : 0, () -> y.fits(0, d) ? 1 : 0);
            both(run + d + ": out", () -> x.out(d) ? 1 : 0, () -> y.out(d) ? 1 : 0);
            both(run + d + ": by", () -> x.by(d), () -> y.by(d));
            both(run + d + ": depth", () -> x.depth(d), () -> y.depth(d));
        }
        for (int k = 0; k < SHORT_LINE; k++) {
            int name = k;
            both(run + k + ": name", () -> x.name(0, name, names - 1) ? 1 : 0, () -> y.name(0, name, names - 1) ? 1 : 0);
        }
    }

    private void run(int seed) {
        String run = "run " + seed + ": ";
        while (calls < CALLS - 200) {
            if (random.nextInt(3) == 0) {
                feed(run, text(PIECES, random.nextInt(random.nextInt(8) == 0 ? 600 : 60)));
                rules = Math.max(rules, (int) both(run + "read()", x::read, y::read));
            } else {
                feed(run, pathText());
                names = (int) both(run + "path()", x::path, y::path);
            }
            if (random.nextInt(4) == 0) {
                both(run + "wipe()", x::wipe, y::wipe);
            }
            for (int i = random.nextInt(20); i > 0; i--) {
                ask(run);
            }
        }
    }

    private String pathText() {
        String text = text(PATH_PIECES, 1 + random.nextInt(random.nextInt(4) == 0 ? 50 : 8));
        return random.nextInt(8) == 0 ? text : text.replaceAll("/+", "/").replaceAll("^/|/$", "");
    }

    private String text(String[] pieces, int many) {
        StringBuilder built = new StringBuilder();
        for (int i = 0; i < many; i++) {
            built.append(pieces[random.nextInt(pieces.length)]);
        }
        return built.toString();
    }

    private void feed(String run, String text) {
        for (int from = 0; from < text.length() && calls < CALLS - 100; from += 8) {
            int n = Math.min(8, text.length() - from);
            long bytes = random.nextLong();
            for (int i = 0; i < n; i++) {
                bytes = bytes & ~(255L << (8 * i)) | (long) text.charAt(from + i) << (8 * i);
            }
            long fed = bytes;
            both(run + "feed(" + n + ", " + fed + ")", () -> x.feed(n, fed), () -> y.feed(n, fed));
        }
    }

    private void ask(String run) {
        int i = random.nextInt(rules + 2) - 1;
        int k = random.nextInt(5) - 1;
        int j = random.nextInt(Math.max(1, names) + 2) - 1;
        int what = random.nextInt(5) - 1;
        boolean d = random.nextBoolean();
        String asked = run + "call " + calls + " with " + i + ", " + k + ", " + j + ", " + what + ", " + d + ": ";
        switch (random.nextInt(8)) {
            case 0 -> both(asked + "rule", () -> x.rule(i, what), () -> y.rule(i, what));
            case 1 -> both(asked + "fits", () -> x.fits(i, d) ? 1 : 0, () -> y.fits(i, d) ? 1 : 0);
            case 2 -> both(asked + "out", () -> x.out(d) ? 1 : 0, () -> y.out(d) ? 1 : 0);
            case 3 -> both(asked + "by", () -> x.by(d), () -> y.by(d));
            case 4 -> both(asked + "depth", () -> x.depth(d), () -> y.depth(d));
            case 5 -> both(asked + "many", () -> x.many(d), () -> y.many(d));
            case 6 -> both(asked + "feed", () -> x.feed(what * 3, 0), () -> y.feed(what * 3, 0));
            default -> both(asked + "name", () -> x.name(i, k, j) ? 1 : 0, () -> y.name(i, k, j) ? 1 : 0);
        }
    }

    private long both(String what, LongSupplier mine, LongSupplier other) {
        calls++;
        long got = answer(mine);
        Checks.same(what, got, answer(other));
        return got;
    }

    /** An exception counts as an answer far below all others. */
    private static long answer(LongSupplier call) {
        try {
            return call.getAsLong();
        } catch (RuntimeException e) {
            return Integer.MIN_VALUE - (long) Math.abs(e.getClass().getName().hashCode());
        }
    }
}
