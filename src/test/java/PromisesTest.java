/** Each promise of the document, one after the other: ordinary inputs, edges, wrong inputs. */
public final class PromisesTest {
    private static final Class<IllegalArgumentException> ARGUMENT = IllegalArgumentException.class;
    private static final Class<IllegalStateException> STATE = IllegalStateException.class;
    private static final Class<IndexOutOfBoundsException> INDEX = IndexOutOfBoundsException.class;

    public static void main(String[] args) {
        newObject();
        feed();
        wipe();
        read();
        readLines();
        rule();
        ruleVoid();
        path();
        fitsUnbound();
        fitsBound();
        fitsDeep();
        fitsSets();
        fitsThrows();
        out();
        by();
        depth();
        many();
        name();
        nameThrows();
        Checks.end();
    }

    private static void newObject() {
        IgnoreRules x = new IgnoreRules();
        Checks.same("1: NONE", IgnoreRules.NONE, -1);
        Checks.same("1: wipe", x.wipe(), 0);
        Checks.same("1: path", x.path(), -1);
        Checks.same("1: read", x.read(), 0);
        Checks.fails("1: rule", INDEX, () -> x.rule(0, 0));
        Checks.fails("1: out", STATE, () -> x.out(false));
        IgnoreRules y = new IgnoreRules();
        Checks.path(y, "a");
        Checks.same("1: no rule leaves out", y.out(true), false);
        Checks.same("1: no rule decides", y.by(true), -1);
        Checks.same("1: no rule fits", y.many(true), 0);
    }

    private static void feed() {
        IgnoreRules x = new IgnoreRules();
        Checks.fails("2: feed 0", ARGUMENT, () -> x.feed(0, 1));
        Checks.fails("2: feed 9", ARGUMENT, () -> x.feed(9, 1));
        Checks.fails("2: feed -1", ARGUMENT, () -> x.feed(-1, 1));
        Checks.fails("2: feed least", ARGUMENT, () -> x.feed(Integer.MIN_VALUE, 1));
        Checks.fails("2: feed most", ARGUMENT, () -> x.feed(Integer.MAX_VALUE, 1));
        Checks.same("2: what threw fed nothing", x.wipe(), 0);
        Checks.same("2: first", x.feed(2, 0x632F61L), 2);
        Checks.same("2: second", x.feed(1, 0x62L), 3);
        Checks.same("2: lowest first, no more than n", x.path(), 2);
        Checks.rules(x, "/a/b");
        Checks.same("2: the path is a/b", x.fits(0, false), true);
        Checks.same("2: eight bytes, high bits too", x.feed(8, -1L), 8);
        Checks.same("2: path of byte 255", x.path(), 1);
        Checks.rules(x, "\u00ff\u00ff\u00ff\u00ff\u00ff\u00ff\u00ff\u00ff");
        Checks.same("2: byte 255 is itself", x.fits(0, false), true);
        Checks.same("2: up to 992", Checks.feed(x, "x".repeat(992)), 992);
        Checks.same("2: 1000 are not too many", x.feed(8, 0), 1000);
        Checks.same("2: 1001 are", x.feed(1, 0), -1);
        Checks.fails("2: the throw comes ahead of NONE", ARGUMENT, () -> x.feed(9, 0));
        Checks.same("2: what was refused changed nothing", x.wipe(), 1000);
        Checks.feed(x, "x".repeat(995));
        Checks.same("2: six more than fit", x.feed(6, 0), -1);
        Checks.same("2: five fit", x.feed(5, 0), 1000);
    }

    private static void wipe() {
        IgnoreRules x = Checks.with("a", "a");
        Checks.feed(x, "abc");
        Checks.same("3: wipe", x.wipe(), 3);
        Checks.same("3: wipe again", x.wipe(), 0);
        Checks.same("3: the rules and the path stay", x.out(false), true);
        Checks.same("3: feed starts anew", x.feed(1, 'b'), 1);
        Checks.same("3: what was wiped is gone", x.path(), 1);
        Checks.same("3: the path is b", x.out(false), false);
    }

    private static void read() {
        IgnoreRules x = new IgnoreRules();
        Checks.same("4: three", Checks.rules(x, "a\nb\nc"), 3);
        Checks.same("4: the tape is empty then", x.wipe(), 0);
        Checks.same("4: others instead", Checks.rules(x, "d\n"), 1);
        Checks.same("4: sixty", Checks.rules(x, "a\n".repeat(60)), 60);
        Checks.same("4: path", Checks.path(x, "a"), 1);
        Checks.same("4: sixty-one", Checks.rules(x, "b\n".repeat(61)), -1);
        Checks.same("4: the tape stays", x.wipe(), 122);
        Checks.same("4: the rules stay", x.many(false), 60);
        Checks.same("4: the last of them too", x.by(false), 59);
        Checks.same("4: sixty and lines that are none", Checks.rules(x, "#\n\n  \n" + "b\n".repeat(60)), 60);
        Checks.same("4: the path stays", x.depth(false), 1);
        Checks.same("4: of no tape none", x.read(), 0);
        Checks.fails("4: none is left", INDEX, () -> x.rule(0, 0));
        Checks.same("4: a thousand lines", Checks.rules(x, "\n".repeat(999) + "a"), 1);
        Checks.same("4: the last line", x.rule(0, 2), 999);
    }

    private static void readLines() {
        fits("blanks at the end go", "a  ", "a", true);
        fits("a blank before stays", " a", " a", true);
        fits("a blank behind one \\ stays", "a\\ ", "a ", true);
        fits("and ends that", "a\\   ", "a ", true);
        fits("a blank behind two \\ goes", "a\\\\  ", "a\\", true);
        fits("a blank behind three \\ stays", "a\\\\\\ ", "a\\ ", true);
        fits("a tab stays", "a\t", "a", false);
        fits("# behind a \\", "\\#a", "#a", true);
        fits("# that is not the first", " #a", " #a", true);
        fits("# behind a !", "!#a", "#a", true);
        fits("! behind a \\", "\\!a", "!a", true);
        fits("! behind a !", "!!a", "!a", true);
        fits("byte 13 is as others", "a\r", "a\r", true);
        IgnoreRules x = new IgnoreRules();
        Checks.same("4: no rules", Checks.rules(x, "#a\n\n   \n# \n#\\ \n"), 0);
        Checks.same("4: a ! and blanks", Checks.rules(x, "!  "), 1);
        Checks.same("4: which is void", x.rule(0, 0), 9);
    }

    private static void rule() {
        IgnoreRules x = new IgnoreRules();
        Checks.rules(x, "a\n!b\n\nc/\n#\n/d\n!/e/\nf/g/h\n!i/j/");
        ruleIs(x, 0, 0, 1, 0);
        ruleIs(x, 1, 1, 1, 1);
        ruleIs(x, 2, 2, 1, 3);
        ruleIs(x, 3, 4, 1, 5);
        ruleIs(x, 4, 7, 1, 6);
        ruleIs(x, 5, 4, 3, 7);
        ruleIs(x, 6, 7, 2, 8);
        Checks.fails("5: rule 7", INDEX, () -> x.rule(7, 0));
        Checks.fails("5: rule -1", INDEX, () -> x.rule(-1, 0));
        Checks.fails("5: rule most", INDEX, () -> x.rule(Integer.MAX_VALUE, 0));
        Checks.fails("5: what 3", ARGUMENT, () -> x.rule(0, 3));
        Checks.fails("5: what -1", ARGUMENT, () -> x.rule(6, -1));
        Checks.fails("5: no rule comes ahead of what", INDEX, () -> x.rule(7, 3));
        bits("a\\/", 12, 2);
        bits("a\\\\/", 2, 1);
        bits("a\\\\\\/", 12, 2);
        bits("a/ ", 2, 1);
        bits("a/\\ ", 4, 2);
        bits("**", 0, 1);
        bits("**/", 2, 1);
        bits("/**", 4, 1);
        bits("**/a", 4, 2);
        bits("/\\!a", 4, 1);
        bits("\\!/a", 4, 2);
        bits("[a/b]", 12, 2);
    }

    private static void ruleVoid() {
        bits("/", 10, 1);
        bits("//", 14, 1);
        bits("///", 14, 2);
        bits("!", 9, 1);
        bits("!/", 11, 1);
        bits("a//b", 12, 3);
        bits("//a", 12, 2);
        bits("a//", 14, 2);
        bits("\\", 8, 1);
        bits("a\\\\\\", 8, 1);
        bits("\\\\", 0, 1);
        bits("[", 8, 1);
        bits("[]", 8, 1);
        bits("[!", 8, 1);
        bits("[!]", 8, 1);
        bits("[^]", 8, 1);
        bits("[]]", 0, 1);
        bits("[!]]", 0, 1);
        bits("[a\\]", 8, 1);
        bits("[a\\]]", 0, 1);
        bits("[a-\\", 8, 1);
        bits("[a-]", 0, 1);
        bits("[[]", 0, 1);
        bits("]", 0, 1);
        bits("\\[", 0, 1);
        bits("a]b[", 8, 1);
        bits("/".repeat(1000), 14, 999);
        bits("x".repeat(999) + "[", 8, 1);
        bits("x".repeat(999) + "\\", 8, 1);
        bits("x".repeat(998) + "[!", 8, 1);
        for (String none : new String[] {"[", "\\", "a[", "[]", "[!]", "a\\", "*[", "/", "!", "//", "/a/", "*[a"}) {
            IgnoreRules x = Checks.with("x\n" + none, "a");
            boolean isVoid = (x.rule(1, 0) & 8) != 0;
            Checks.same("7: " + none + " is void or fits", x.fits(1, true), !isVoid);
        }
    }

    private static void path() {
        IgnoreRules x = new IgnoreRules();
        Checks.rules(x, "a");
        Checks.same("6: one name", Checks.path(x, "a"), 1);
        Checks.same("6: the tape is empty then", x.wipe(), 0);
        Checks.same("6: out", x.out(false), true);
        Checks.same("6: another instead", Checks.path(x, "b/c/d"), 3);
        Checks.same("6: 20 names", Checks.path(x, "a/".repeat(19) + "a"), 20);
        Checks.same("6: 120 bytes", Checks.path(x, "a".repeat(120)), 1);
        Checks.same("6: any bytes", Checks.path(x, "\u0000\u00ff */\\[ #/!"), 3);
        String[] none = {"", "/", "/a", "a/", "a//b", "\n", "a\n", "a/\n/b", "a/".repeat(20) + "a",
            "a".repeat(121), "a".repeat(119) + "/a", "a/".repeat(20), "a".repeat(1000)};
        for (String text : none) {
            Checks.path(x, "a");
            Checks.same("6: path " + text, Checks.path(x, text), -1);
            Checks.fails("6: no path behind " + text, STATE, () -> x.out(false));
            Checks.same("6: the tape stays with " + text, x.wipe(), text.length());
        }
        Checks.same("6: the rules stay", x.rule(0, 1), 1);
        Checks.path(x, "a/");
        Checks.same("6: more comes behind it", x.feed(1, 'b'), 3);
        Checks.same("6: and makes it one", x.path(), 2);
    }

    private static void fitsUnbound() {
        fits("byte", "a", "a", true);
        fits("other byte", "a", "b", false);
        fits("all bytes are taken up", "a", "ab", false);
        fits("and all of the name are there", "ab", "a", false);
        fits("in the last name", "a", "x/y/a", true);
        fits("and in no other", "a", "a/x", false);
        fits("star takes none", "a*", "a", true);
        fits("star takes any", "a*b", "axyzb", true);
        fits("star goes on", "*ab", "aab", true);
        fits("star does not part", "a*b", "axyzc", false);
        fits("two stars", "*a*b", "xaxxaxb", true);
        fits("two stars as one", "a**b", "ab", true);
        fits("only stars", "***", "abc", true);
        fits("question mark", "a?c", "abc", true);
        fits("question mark takes one", "a?", "a", false);
        fits("question mark takes any", "?", "\u00ff", true);
        fits("star and question mark", "*?", "a", true);
        fits("question mark and star", "?*?", "a", false);
        fits("\\*", "\\*", "a", false);
        fits("\\* itself", "\\*", "*", true);
        fits("\\?", "\\?", "?", true);
        fits("\\[", "\\[a]", "[a]", true);
        fits("\\\\", "\\\\", "\\", true);
        fits("\\a", "\\a", "a", true);
        fits("] alone", "a]", "a]", true);
        fits("- alone", "a-c", "b", false);
        fits("! inside", "a!", "a!", true);
        IgnoreRules x = Checks.with("a/\n!a", "a");
        Checks.same("7: for directories alone", x.fits(0, false), false);
        Checks.same("7: directory", x.fits(0, true), true);
        Checks.same("7: turned ones fit, too", x.fits(1, false), true);
    }

    private static void fitsBound() {
        fits("bound at the first", "/a", "a", true);
        fits("bound, deeper", "/a", "x/a", false);
        fits("bound, longer path", "/a", "a/x", false);
        fits("two names", "a/b", "a/b", true);
        fits("two names, one", "a/b", "a", false);
        fits("two names, deeper", "a/b", "x/a/b", false);
        fits("two names with items", "a*/[b]?", "abc/bx", true);
        fits("a star takes no name", "a/*", "a", false);
        fits("a star takes one name", "a/*", "a/b", true);
        fits("a star takes no two names", "a/*", "a/b/c", false);
        fits("a star takes no /", "/a*c", "ab/bc", false);
        fits("question mark takes no /", "/a?c", "a/c", false);
        fits("set takes no /", "/a[!b]c", "a/c", false);
        IgnoreRules x = Checks.with("/a/b/", "a/b");
        Checks.same("7: bound, file", x.fits(0, false), false);
        Checks.same("7: bound, directory", x.fits(0, true), true);
    }

    private static void fitsDeep() {
        fits("deep first, none", "**/a", "a", true);
        fits("deep first, some", "**/a", "x/y/a", true);
        fits("deep first, further", "**/a", "a/x", false);
        fits("deep between, none", "a/**/b", "a/b", true);
        fits("deep between, some", "a/**/b", "a/x/y/b", true);
        fits("deep between, other end", "a/**/b", "a/x/y/c", false);
        fits("deep between, twice its end", "a/**/b", "a/b/x/b", true);
        fits("deep last, none", "a/**", "a", false);
        fits("deep last, one", "a/**", "a/b", true);
        fits("deep last, more", "a/**", "a/b/c/d", true);
        fits("deep last, other first", "a/**", "b/a/c", false);
        fits("deep alone", "/**", "a", true);
        fits("deep alone, more", "/**", "a/b/c", true);
        fits("two deep, too few", "a/**/**", "a", false);
        fits("two deep, one", "a/**/**", "a/b", true);
        fits("two deep first", "**/**/a", "a", true);
        fits("deep on both sides", "**/a/**", "a", false);
        fits("deep on both sides, one", "**/a/**", "x/a/b", true);
        fits("deep on both sides, at the end", "**/a/**", "x/a", false);
        fits("two names between", "**/a/b/**/c", "a/a/b/b/c", true);
        fits("not bound, so not deep", "**", "a/b", true);
        fits("three stars are not deep", "/***", "a/b", false);
        fits("three stars take one", "***/a", "a", false);
        fits("three stars take just one", "***/a", "x/a", true);
        fits("stars beside a byte are not deep", "a/**b", "a/x/b", false);
        fits("stars beside a byte", "a/**b", "a/xb", true);
        fits("\\** is not deep", "\\**/a", "x/y/a", false);
        fits("\\** begins with a star", "\\**/a", "*x/a", true);
        fits("deep ones of many", "**/".repeat(300) + "a", "b/".repeat(19) + "a", true);
        IgnoreRules x = Checks.with("a/**/", "a/b");
        Checks.same("7: deep, file", x.fits(0, false), false);
        Checks.same("7: deep, directory", x.fits(0, true), true);
    }

    private static void fitsSets() {
        set("[ab]", "ab");
        set("[a-c]", "abc");
        set("[a-]", "a-");
        set("[-a]", "a-");
        set("[a-c-e]", "abc-e");
        set("[]]", "]");
        set("[]a]", "]a");
        set("[]-a]", "]^_`a");
        set("[]-]", "]-");
        set("[\\]]", "]");
        set("[\\a]", "a");
        set("[\\\\]", "\\");
        set("[a\\-c]", "a-c");
        set("[[-\\]]", "[\\]");
        set("[\\[-\\]]", "[\\]");
        set("[z-a]", "");
        set("[c-cz-a]", "c");
        set("[a-\\]]", "");
        set("[--0]", "-./0");
        set("[---]", "-");
        set("[+--]", "+,-");
        set("[a-a]", "a");
        set("[a!]", "a!");
        set("[a^]", "a^");
        set("[\\!a]", "!a");
        set("[*?[]", "*?[");
        set("[a\u00fe-\u00ff]", "a\u00fe\u00ff");
        set("[~-\u0081]", "~\u007f\u0080\u0081");
        fits("a set and more", "[a-c]]", "b]", true);
        fits("the first ] ends it", "[a-]b]", "-b]", true);
        fits("a set takes one byte", "[ab]", "ab", false);
        fits("a set behind a star", "*[0-9]", "a12", true);
        fits("sets behind one another", "[a][!a]", "ab", true);
        fits("a set at the tape's end", "x".repeat(994) + "\n[!-a]", "b", true);
    }

    /** A set takes what it is told to take, and with ! or ^ all but that. */
    private static void set(String pattern, String taken) {
        String rest = pattern.substring(1);
        IgnoreRules x = new IgnoreRules();
        IgnoreRules y = new IgnoreRules();
        for (char one = 0; one < 256; one++) {
            if (one % 32 == 0) {
                x = new IgnoreRules();
                y = new IgnoreRules();
                Checks.rules(x, pattern);
                Checks.rules(y, "[!" + rest + "\n[^" + rest);
            }
            if (one == '/' || one == '\n') {
                continue;
            }
            boolean due = taken.indexOf(one) >= 0;
            Checks.path(x, String.valueOf(one));
            Checks.path(y, String.valueOf(one));
            Checks.same("7: " + pattern + " and byte " + (int) one, x.fits(0, false), due);
            Checks.same("7: " + pattern + " with ! and byte " + (int) one, y.fits(0, false), !due);
            Checks.same("7: " + pattern + " with ^ and byte " + (int) one, y.fits(1, false), !due);
        }
    }

    private static void fitsThrows() {
        IgnoreRules x = new IgnoreRules();
        Checks.rules(x, "a\nb");
        Checks.fails("7: no path", STATE, () -> x.fits(0, true));
        Checks.fails("7: no rule comes ahead of no path", INDEX, () -> x.fits(2, true));
        Checks.path(x, "a");
        Checks.fails("7: rule 2", INDEX, () -> x.fits(2, true));
        Checks.fails("7: rule -1", INDEX, () -> x.fits(-1, false));
        Checks.same("7: all is as before", x.fits(0, false), true);
    }

    private static void out() {
        outIs("a", "a", true, true);
        outIs("a", "b", false, false);
        outIs("a/", "a", false, true);
        outIs("a\n!a", "a", false, false);
        outIs("!a\na", "a", true, true);
        outIs("a\n!a/", "a", true, false);
        outIs("!a", "a", false, false);
        outIs("a", "a/b", true, true);
        outIs("a/", "a/b", true, true);
        outIs("a/\n!a/b", "a/b", true, true);
        outIs("a/*\n!a/b", "a/b", false, false);
        outIs("a/*\n!a/b", "a/b/c", false, false);
        outIs("a/*\n!a/b", "a/x/c", true, true);
        outIs("a\n!a/", "a/b", false, false);
        outIs("b/\n!*", "x/b/c/d", false, false);
        outIs("!*\nb/", "x/b/c/d", true, true);
        outIs("**/b/**\n!c", "b/c/d", false, true, 3);
        outIs("/", "a/b", false, false);
        IgnoreRules x = new IgnoreRules();
        Checks.rules(x, "a");
        Checks.fails("8: no path", STATE, () -> x.out(true));
        Checks.fails("8: no path, file", STATE, () -> x.out(false));
    }

    private static void by() {
        byIs("a", "a", 0, 0);
        byIs("a", "b", -1, -1);
        byIs("a\na\nb", "a", 1, 1);
        byIs("a\na/", "a", 0, 1);
        byIs("a\n!a", "a", 1, 1);
        byIs("a\nb", "a/b", 0, 0);
        byIs("!a\nb", "a/b", 1, 1);
        byIs("!a\n!b", "a/c", -1, -1);
        byIs("a\n!b\na/\nx", "x/a/b", 3, 3);
        byIs("a\n!b\na/\n!x", "x/a/b", 2, 2);
        IgnoreRules x = new IgnoreRules();
        Checks.fails("9: no path", STATE, () -> x.by(true));
        Checks.fails("9: no path, file", STATE, () -> x.by(false));
    }

    private static void depth() {
        depthIs("a", "a", 1);
        depthIs("x", "a/b/c", 3);
        depthIs("a", "a/b/c", 1);
        depthIs("b", "a/b/c", 2);
        depthIs("c", "a/b/c", 3);
        depthIs("!a", "a/b/c", 3);
        depthIs("b\na\n!a", "a/b/c", 2);
        depthIs("c\nb/", "a/b/c", 2);
        depthIs("*", "a/b/c", 1);
        depthIs("c/", "a/b/c", 3);
        depthIs("**/a/**", "x/".repeat(17) + "a/b/c", 19);
        IgnoreRules x = new IgnoreRules();
        Checks.fails("10: no path", STATE, () -> x.depth(true));
        Checks.fails("10: no path, file", STATE, () -> x.depth(false));
    }

    private static void many() {
        manyIs("a\nb", "c", 0, 0);
        manyIs("a\n!a\na/\n/a\nb\n[", "a", 3, 4);
        manyIs("a", "a/b", 0, 0);
        manyIs("b\nb/\na/*\na", "a/b", 2, 3);
        manyIs("*\n".repeat(60), "a/b", 60, 60);
        IgnoreRules x = new IgnoreRules();
        Checks.fails("11: no path", STATE, () -> x.many(true));
        Checks.fails("11: no path, file", STATE, () -> x.many(false));
    }

    private static void name() {
        IgnoreRules x = Checks.with("!a*/**/[b/\nx\n/a//b/**/c[\n**\n/**\n***/b\\", "ab/b/x");
        Checks.same("12: a* and ab", x.name(0, 0, 0), true);
        Checks.same("12: a* and b", x.name(0, 0, 1), false);
        Checks.same("12: a deep one fits any", x.name(0, 1, 0), true);
        Checks.same("12: the last too", x.name(0, 1, 2), true);
        Checks.same("12: one that ends within a set", x.name(0, 2, 1), false);
        Checks.same("12: not bound, any name", x.name(1, 0, 2), true);
        Checks.same("12: not bound, another", x.name(1, 0, 0), false);
        Checks.same("12: an empty one", x.name(2, 1, 0), false);
        Checks.same("12: a good one of a void rule", x.name(2, 2, 1), true);
        Checks.same("12: a deep one of a void rule", x.name(2, 3, 1), true);
        Checks.same("12: the void one of it", x.name(2, 4, 1), false);
        Checks.same("12: stars that are not deep", x.name(3, 0, 1), true);
        Checks.same("12: deep alone", x.name(4, 0, 1), true);
        Checks.same("12: three stars", x.name(5, 0, 1), true);
        Checks.same("12: behind a \\ that takes nothing", x.name(5, 1, 1), false);
        voidNames("\\", "\\");
        voidNames("a\\", "a\\");
        voidNames("[", "[");
        voidNames("[a", "[a");
        voidNames("[!a", "b!a");
        voidNames("*[", "a");
        voidNames("[a\\]", "a");
    }

    private static void voidNames(String rule, String path) {
        IgnoreRules x = Checks.with(rule + "\n**/" + rule, path);
        Checks.same("12: the void name " + rule, x.name(0, 0, 0), false);
        Checks.same("12: the void name " + rule + " of two", x.name(1, 1, 0), false);
        Checks.same("12: the deep one before " + rule, x.name(1, 0, 0), true);
        Checks.same("7: the void rule " + rule, x.fits(0, true), false);
    }

    private static void nameThrows() {
        IgnoreRules x = new IgnoreRules();
        Checks.fails("12: no rule", INDEX, () -> x.name(0, 0, 0));
        Checks.rules(x, "a/b\nc");
        Checks.fails("12: rule 2", INDEX, () -> x.name(2, 0, 0));
        Checks.fails("12: rule -1", INDEX, () -> x.name(-1, 0, 0));
        Checks.fails("12: no name comes ahead of no path", INDEX, () -> x.name(0, 2, 0));
        Checks.fails("12: name -1 comes ahead of no path", INDEX, () -> x.name(0, -1, 0));
        Checks.fails("12: no path comes ahead of its names", STATE, () -> x.name(0, 1, 9));
        Checks.path(x, "a/b");
        Checks.fails("12: name 2 of the rule", INDEX, () -> x.name(0, 2, 0));
        Checks.fails("12: name 1 of the other", INDEX, () -> x.name(1, 1, 0));
        Checks.fails("12: name 2 of the path", INDEX, () -> x.name(0, 0, 2));
        Checks.fails("12: name -1 of the path", INDEX, () -> x.name(0, 0, -1));
        Checks.same("12: all is as before", x.name(0, 1, 1), true);
    }

    private static void fits(String what, String rules, String path, boolean due) {
        IgnoreRules x = Checks.with(rules, path);
        int last = rules.indexOf('\n') < 0 ? 0 : 1;
        Checks.same("7: " + what, x.fits(last, false), due);
    }

    private static void ruleIs(IgnoreRules x, int i, int bits, int names, int line) {
        Checks.same("5: bits of rule " + i, x.rule(i, 0), bits);
        Checks.same("5: names of rule " + i, x.rule(i, 1), names);
        Checks.same("5: line of rule " + i, x.rule(i, 2), line);
    }

    private static void bits(String rule, int bits, int names) {
        IgnoreRules x = new IgnoreRules();
        Checks.same("5: one rule " + rule, Checks.rules(x, rule), 1);
        Checks.same("5: bits of " + rule, x.rule(0, 0), bits);
        Checks.same("5: names of " + rule, x.rule(0, 1), names);
        Checks.same("5: line of " + rule, x.rule(0, 2), 0);
    }

    private static void outIs(String rules, String path, boolean file, boolean directory) {
        IgnoreRules x = Checks.with(rules, path);
        Checks.same("8: " + rules + " for the file " + path, x.out(false), file);
        Checks.same("8: " + rules + " for the directory " + path, x.out(true), directory);
    }

    private static void outIs(String rules, String path, boolean parent, boolean due, int names) {
        IgnoreRules x = Checks.with(rules, path.substring(0, path.lastIndexOf('/')));
        Checks.same("8: " + rules + " above " + path, x.out(true), parent);
        Checks.path(x, path);
        Checks.same("8: " + rules + " for " + path, x.out(false), due);
        Checks.same("8: " + rules + " decided for " + path, x.depth(false), names);
    }

    private static void byIs(String rules, String path, int file, int directory) {
        IgnoreRules x = Checks.with(rules, path);
        Checks.same("9: " + rules + " for the file " + path, x.by(false), file);
        Checks.same("9: " + rules + " for the directory " + path, x.by(true), directory);
    }

    private static void depthIs(String rules, String path, int due) {
        IgnoreRules x = Checks.with(rules, path);
        Checks.same("10: " + rules + " for the file " + path, x.depth(false), due);
        Checks.same("10: " + rules + " for the directory " + path, x.depth(true), due);
    }

    private static void manyIs(String rules, String path, int file, int directory) {
        IgnoreRules x = Checks.with(rules, path);
        Checks.same("11: " + rules + " for the file " + path, x.many(false), file);
        Checks.same("11: " + rules + " for the directory " + path, x.many(true), directory);
    }
}
