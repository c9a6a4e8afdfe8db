/** "Terms", paths, what fits them and what leaves them out: a test for each sentence with a boundary case. */
public final class PathsTest {
    private static final Class<IllegalStateException> STATE = IllegalStateException.class;

    public static void main(String[] args) {
        oneNameOrMore();
        upTo20Names();
        anyBytesBut();
        noneEmpty();
        upTo120Bytes();
        fitsDirectories();
        fitsNotBound();
        fitsBound();
        fitsDeep();
        fitsDeepAsLast();
        allBytesInOrder();
        leftOutByDirectory();
        leftOutByFewerThanAll();
        leftOutByLast();
        leftOutByNone();
        Checks.end();
    }

    private static void isPath(String text, int names) {
        IgnoreRules x = new IgnoreRules();
        Checks.same("path() of " + text, Checks.path(x, text), names);
        Checks.same("depth() of " + text, x.depth(false), names);
        Checks.same("the tape behind " + text, x.wipe(), 0);
    }

    private static void isNone(String text) {
        IgnoreRules x = new IgnoreRules();
        Checks.same("path() of " + text, Checks.path(x, text), -1);
        Checks.fails("out() behind " + text, STATE, () -> x.out(true));
        Checks.same("the tape behind " + text, x.wipe(), text.length());
    }

    private static void oneNameOrMore() {
        Checks.about("A PATH is one or more NAMES with / between");
        isNone("");
        isPath("a", 1);
        isPath("a/b", 2);
        isPath("abc/de/f", 3);
    }

    private static void upTo20Names() {
        Checks.about("up to 20");
        for (int names = 1; names <= 60; names++) {
            String text = "a/".repeat(names - 1) + "b";
            if (names <= 20) {
                isPath(text, names);
            } else {
                isNone(text);
            }
        }
        isNone("a/".repeat(20));
        isNone("a/".repeat(19));
        isPath("abcde/".repeat(19) + "abcdef", 20);
        isNone("abcd/".repeat(20) + "abcde");
        IgnoreRules x = Checks.with("b\n**/a/b\n" + "a/".repeat(19) + "b\n" + "a/".repeat(20) + "b",
                "a/".repeat(19) + "b");
        Checks.same("the 20th name", x.fits(0, false), true);
        Checks.same("the 19th, too", x.fits(1, false), true);
        Checks.same("all 20 names", x.fits(2, false), true);
        Checks.same("a rule of 21", x.fits(3, false), false);
        Checks.same("name 19 of the path", x.name(2, 19, 19), true);
        Checks.same("name 18 of the path", x.name(2, 19, 18), false);
    }

    private static void anyBytesBut() {
        Checks.about("of any bytes but / and 10");
        for (char one = 0; one < 256; one++) {
            String text = String.valueOf(one);
            if (one == '/' || one == '\n') {
                isNone(text);
            } else {
                isPath(text, 1);
                isPath(text + "/" + text, 2);
                isPath("a" + text + "b", 1);
            }
        }
        isNone("a\n");
        isNone("\na");
        isNone("a\nb");
        isNone("a/b\n");
        isNone("a\n/b");
        isNone("a".repeat(119) + "\n");
        isPath("  ", 1);
        isPath("#a/!b/\\/[/**/?", 6);
        Cases.takes("\\!b", "#a/!b");
        Cases.takes("\\\\", "#a/\\");
        Cases.leaves("a", "a ", " a", "a\\");
    }

    private static void noneEmpty() {
        Checks.about("none of them empty");
        isNone("/");
        isNone("//");
        isNone("/a");
        isNone("a/");
        isNone("a//b");
        isNone("a/b//");
        isNone("a/b/");
        isNone("a/".repeat(18) + "/a");
        isPath("a/b", 2);
    }

    private static void upTo120Bytes() {
        Checks.about("120 bytes at most");
        isPath("a".repeat(119), 1);
        isPath("a".repeat(120), 1);
        isNone("a".repeat(121));
        isNone("a".repeat(128));
        isNone("a".repeat(1000));
        isPath("a".repeat(118) + "/b", 2);
        isNone("a".repeat(119) + "/b");
        isPath("a/" + "b".repeat(118), 2);
        isNone("a".repeat(120) + "/");
        isNone("a".repeat(120) + "\n");
        IgnoreRules x = Checks.with("*b\n" + "?".repeat(120) + "\n" + "a".repeat(119) + "b", "a".repeat(119) + "b");
        Checks.same("the last byte", x.fits(0, false), true);
        Checks.same("all bytes", x.fits(1, false), true);
        Checks.same("each of them", x.fits(2, false), true);
        Checks.path(x, "b".repeat(120));
        Checks.path(x, "a");
        Checks.same("a shorter one behind a longer one", x.fits(0, false), false);
    }

    private static void fitsDirectories() {
        Checks.about("the path is a directory, or the rule is not for these alone");
        for (String rule : new String[] {"b", "/a/b", "**/b", "a/**", "!b", "*"}) {
            IgnoreRules x = Checks.with(rule + "\n" + rule + "/", "a/b");
            Checks.same(rule + ", file", x.fits(0, false), true);
            Checks.same(rule + ", directory", x.fits(0, true), true);
            Checks.same(rule + "/, file", x.fits(1, false), false);
            Checks.same(rule + "/, directory", x.fits(1, true), true);
        }
        Cases.leaves("b/", "a", "b/a");
        Cases.leaves("/b/", "a/b");
    }

    private static void fitsNotBound() {
        Checks.about("it is not bound, and its name fits the path's last one");
        Cases.takes("a", "a", "b/a", "b/c/a", "x/".repeat(19) + "a");
        Cases.leaves("a", "b", "a/b", "b/a/c", "a/".repeat(19) + "x");
        Cases.takes("*", "a", "a/b");
        Cases.leaves("a*b", "a/b");
    }

    private static void fitsBound() {
        Checks.about("it is bound, and its names fit the path's, one after the other");
        Cases.takes("/a", "a");
        Cases.leaves("/a", "a/a", "b/a", "b", "aa");
        Cases.takes("a/b", "a/b");
        Cases.leaves("a/b", "a", "b", "b/a", "a/b/c", "x/a/b", "a/b/b", "a/a/b", "ab");
        Cases.takes("*/*", "a/b");
        Cases.leaves("*/*", "a", "a/b/c");
        Cases.leaves("/*", "a/b");
        Cases.leaves("/a?b", "a/b");
        Cases.leaves("/a[!x]b", "a/b");
        Cases.leaves("/a*b", "a/b");
        Cases.takes("*/".repeat(19) + "*", "a/".repeat(19) + "a");
        Cases.leaves("*/".repeat(20) + "*", "a/".repeat(19) + "a");
        Cases.leaves("*/".repeat(18) + "*", "a/".repeat(19) + "a");
        Cases.leaves("*/".repeat(300) + "*", "a", "a/".repeat(19) + "a");
    }

    private static void fitsDeep() {
        Checks.about("a deep one any number of them, none too");
        for (int names = 0; names < 19; names++) {
            String between = "x/".repeat(names);
            Cases.takes("**/a", between + "a");
            Cases.takes("a/**/b", "a/" + between + "b");
            Cases.takes("**/*/b", "x/" + between + "b");
            Cases.leaves("a/**/b", "a/" + between + "x", "x/" + between + "b");
        }
        Cases.takes("**/a", "a/a", "a/b/a");
        Cases.leaves("**/a", "a/b", "b");
        Cases.leaves("**/a/b", "b", "a", "a/x/b");
        Cases.takes("a/**/**/b", "a/b", "a/x/b", "a/x/y/b");
        Cases.takes("**/a/**/b", "a/b", "x/a/b", "a/x/b", "x/a/y/b", "a/b/b", "b/a/b/b");
        Cases.leaves("**/a/**/b", "b/a", "a", "b", "a/b/c");
        Cases.takes("**/a/b/**/a/c", "a/b/a/b/a/c", "x/a/b/a/c");
        Cases.leaves("**/a/b/**/a/c", "a/b/a/b/c", "a/b/c");
        Cases.takes("**/".repeat(333) + "a", "a", "x/a", "x/".repeat(19) + "a");
        Cases.leaves("**/".repeat(333) + "a", "b", "a/".repeat(19) + "b");
        Cases.takes("**/x/".repeat(19) + "a", "x/".repeat(19) + "a");
        Cases.leaves("**/x/".repeat(20) + "a", "x/".repeat(19) + "a");
    }

    private static void fitsDeepAsLast() {
        Checks.about("but as the last one one at least");
        Cases.leaves("a/**", "a", "b", "b/a");
        for (int names = 1; names < 20; names++) {
            Cases.takes("a/**", "a" + "/x".repeat(names));
            Cases.takes("/**", "x/".repeat(names) + "x");
        }
        Cases.takes("/**", "a");
        Cases.leaves("a/b/**", "a/b", "a");
        Cases.takes("a/**/**", "a/b", "a/b/c");
        Cases.leaves("a/**/**", "a");
        Cases.takes("**/**", "a", "a/b");
        Cases.takes("**/a/**", "a/b", "x/a/b", "a/a", "x/a/b/c");
        Cases.leaves("**/a/**", "a", "x/a", "x/y/b");
        Cases.leaves("a/**/", "a");
        IgnoreRules x = Checks.with("a/**/", "a/b");
        Checks.same("for directories alone, the directory", x.fits(0, true), true);
        Checks.same("for directories alone, the file", x.fits(0, false), false);
        Cases.takes("a/**/*", "a/b", "a/b/c");
        Cases.leaves("a/**/*", "a");
    }

    private static void allBytesInOrder() {
        Checks.about("A name fits if all its bytes are taken up in order as told");
        Cases.takes("abc", "abc");
        Cases.leaves("abc", "ab", "bc", "abcd", "xabc", "acb", "cba", "a", "abcabc");
        Cases.leaves("a?c", "ac", "abbc");
        Cases.leaves("[ab]", "ab", "ba");
        Cases.leaves("a*c", "acb", "bac");
        Cases.takes("a".repeat(120), "a".repeat(120));
        Cases.leaves("a".repeat(120), "a".repeat(119));
        Cases.leaves("a".repeat(121), "a".repeat(120));
        Cases.leaves("a".repeat(119), "a".repeat(120));
        Cases.leaves("a".repeat(1000), "a".repeat(120), "a");
    }

    private static void leftOutByDirectory() {
        Checks.about("A path is LEFT OUT if a directory that is told by its first names is");
        Cases.outIs("a", "a/b", true, true);
        Cases.outIs("a/", "a/b", true, true);
        Cases.outIs("a/\n!b", "a/b", true, true);
        Cases.outIs("a\n!a/b\n!b\n!*/b", "a/b", true, true);
        Cases.outIs("a\n!b\n!c", "a/b/c", true, true);
        Cases.outIs("b/\n!c", "a/b/c", true, true);
        Cases.outIs("/b/\n!c", "a/b/c", false, false);
        Cases.outIs("/a/b/", "a/b/c/d/e", true, true);
        Cases.outIs("a\n!a", "a/b", false, false);
        Cases.outIs("b/\n!*/", "x/b/c", false, false);
        Cases.outIs("*\n!a", "a/b", true, true);
        Cases.outIs("*\n!*/\n!b", "a/b", false, false);
        Cases.outIs("/x/", "x" + "/y".repeat(19), true, true);
        Cases.outIs("z/\n!*a", "y/".repeat(18) + "z/a", true, true);
    }

    private static void leftOutByFewerThanAll() {
        Checks.about("(fewer than all)");
        Cases.outIs("b/", "a/b", false, true);
        Cases.outIs("b/", "b", false, true);
        Cases.outIs("b/", "b/b", true, true);
        Cases.outIs("b/\n!a/b", "a/b", false, false);
        Cases.outIs("c/", "y/".repeat(19) + "c", false, true);
        Cases.outIs("/**/", "a", false, true);
        Cases.outIs("/**/", "a/b", true, true);
    }

    private static void leftOutByLast() {
        Checks.about("else, if of the rules that fit the last one is not turned");
        Cases.outIs("a", "a", true, true);
        Cases.outIs("!a", "a", false, false);
        Cases.outIs("a\n!a", "a", false, false);
        Cases.outIs("!a\na", "a", true, true);
        Cases.outIs("a\n!a\na", "a", true, true);
        Cases.outIs("a\n!a\nb", "a", false, false);
        Cases.outIs("a\n!b", "a", true, true);
        Cases.outIs("a\n!a/", "a", true, false);
        Cases.outIs("!a\na/", "a", false, true);
        Cases.outIs("a\n!a[", "a", true, true);
        Cases.outIs("a\n".repeat(59) + "!a", "a", false, false);
        Cases.outIs("!a\n".repeat(59) + "a", "a", true, true);
        Cases.outIs("a\n" + "!b\n".repeat(59), "a", true, true);
    }

    private static void leftOutByNone() {
        Checks.about("(if none fits, it is not)");
        Cases.outIs("", "a", false, false);
        Cases.outIs("", "a/b", false, false);
        Cases.outIs("b", "a", false, false);
        Cases.outIs("[", "[", false, false);
        Cases.outIs("x\n!y", "a/b/c", false, false);
    }
}
