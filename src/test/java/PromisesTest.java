/** Each promise of the document, one after the other: ordinary inputs, edges, wrong inputs. */
public final class PromisesTest {
    private static final Class<IllegalArgumentException> ARGUMENT = IllegalArgumentException.class;
    private static final Class<IllegalStateException> STATE = IllegalStateException.class;
    private static final Class<IndexOutOfBoundsException> INDEX = IndexOutOfBoundsException.class;

    public static void main(String[] args) {
        newObject();
        feed();
        feedBytes();
        wipe();
        read();
        readLines();
        rule();
        ruleVoid();
        path();
        fitsUnbound();
        fitsBound();
        fitsDeep();
        fitsSets();
        fitsThrows();
        out();
        by();
        depth();
        many();
        name();
        nameThrows();
        Checks.end();
    }

    private static void newObject() {
        IgnoreRules x = new IgnoreRules();
        Checks.same("1: NONE", IgnoreRules.NONE, -1);
        Checks.same("1: wipe", x.wipe(), 0);
        Checks.same("1: path", x.path(), -1);
        Checks.same("1: read", x.read(), 0);
        Checks.fails("1: rule", INDEX, () -> x.rule(0, 0));
        Checks.fails("1: out", STATE, () -> x.out(false));
        IgnoreRules y = new IgnoreRules();
        Checks.path(y, "a");
        Checks.same("1: no rule leaves out", y.out(true), false);
        Checks.same("1: no rule decides", y.by(true), -1);
        Checks.same("1: no rule fits", y.many(true), 0);
        Checks.same("1: all of the path decides", y.depth(true), 1);
        IgnoreRules z = new IgnoreRules();
        Checks.fails("1: no rule, ahead of no path", INDEX, () -> z.fits(0, true));
        Checks.fails("1: no rule to have a name", INDEX, () -> z.name(0, 0, 0));
        Checks.fails("1: no path for by", STATE, () -> z.by(true));
        Checks.fails("1: no path for depth", STATE, () -> z.depth(true));
        Checks.fails("1: no path for many", STATE, () -> z.many(true));
        Checks.same("1: the first byte", z.feed(1, 'a'), 1);
    }

    private static void feed() {
        IgnoreRules x = new IgnoreRules();
        Checks.fails("2: feed 0", ARGUMENT, () -> x.feed(0, 1));
        Checks.fails("2: feed 9", ARGUMENT, () -> x.feed(9, 1));
        Checks.fails("2: feed -1", ARGUMENT, () -> x.feed(-1, 1));
        Checks.fails("2: feed least", ARGUMENT, () -> x.feed(Integer.MIN_VALUE, 1));
        Checks.fails("2: feed most", ARGUMENT, () -> x.feed(Integer.MAX_VALUE, 1));
        Checks.same("2: what threw fed nothing", x.wipe(), 0);
        Checks.same("2: first", x.feed(2, 0x632F61L), 2);
        Checks.same("2: second", x.feed(1, 0x62L), 3);
        Checks.same("2: lowest first, no more than n", x.path(), 2);
        Checks.rules(x, "/a/b");
        Checks.same("2: the path is a/b", x.fits(0, false), true);
        Checks.same("2: eight bytes, high bits too", x.feed(8, -1L), 8);
        Checks.same("2: path of byte 255", x.path(), 1);
        Checks.rules(x, "\u00ff\u00ff\u00ff\u00ff\u00ff\u00ff\u00ff\u00ff");
        Checks.same("2: byte 255 is itself", x.fits(0, false), true);
        Checks.same("2: up to 992", Checks.feed(x, "x".repeat(992)), 992);
        Checks.same("2: 1000 are not too many", x.feed(8, 0), 1000);
        Checks.same("2: 1001 are", x.feed(1, 0), -1);
        Checks.fails("2: the throw comes ahead of NONE", ARGUMENT, () -> x.feed(9, 0));
        Checks.same("2: what was refused changed nothing", x.wipe(), 1000);
        Checks.feed(x, "x".repeat(995));
        Checks.same("2: six more than fit", x.feed(6, 0), -1);
        Checks.same("2: five fit", x.feed(5, 0), 1000);
    }

    private static void feedBytes() {
        for (int n = 1; n <= 8; n++) {
            IgnoreRules x = new IgnoreRules();
            Checks.same("2: n " + n, x.feed(n, 0x6867666564636261L), n);
            Checks.same("2: n " + n + ", one name", x.path(), 1);
            Checks.rules(x, "abcdefgh".substring(0, n));
            Checks.same("2: the lowest first, n " + n, x.fits(0, false), true);
        }
        for (int at = 0; at < 8; at++) {
            IgnoreRules x = new IgnoreRules();
            x.feed(8, 0x0101010101010101L | 0xFFL << (8 * at));
            Checks.same("2: high bits at " + at, x.path(), 1);
            Checks.rules(x, "\u0001".repeat(at) + "\u00ff" + "\u0001".repeat(7 - at));
            Checks.same("2: a high byte at " + at + " changes no other", x.fits(0, false), true);
        }
        IgnoreRules x = new IgnoreRules();
        for (char one : "rest".toCharArray()) {
            x.feed(1, 0xABCDEF0123456700L | one);
        }
        x.path();
        Checks.rules(x, "rest");
        Checks.same("2: what is above the n lowest is not used", x.fits(0, false), true);
    }

    private static void wipe() {
        IgnoreRules x = Checks.with("a", "a");
        Checks.feed(x, "abc");
        Checks.same("3: wipe", x.wipe(), 3);
        Checks.same("3: wipe again", x.wipe(), 0);
        Checks.same("3: the rules and the path stay", x.out(false), true);
        Checks.same("3: feed starts anew", x.feed(1, 'b'), 1);
        Checks.same("3: what was wiped is gone", x.path(), 1);
        Checks.same("3: the path is b", x.out(false), false);
        Checks.feed(x, "x".repeat(1000));
        Checks.same("3: a full tape", x.wipe(), 1000);
        Checks.same("3: and there is room again", Checks.feed(x, "x".repeat(1000)), 1000);
    }

    private static void read() {
        IgnoreRules x = new IgnoreRules();
        Checks.same("4: three", Checks.rules(x, "a\nb\nc"), 3);
        Checks.same("4: the tape is empty then", x.wipe(), 0);
        Checks.same("4: others instead", Checks.rules(x, "d\n"), 1);
        Checks.same("4: sixty", Checks.rules(x, "a\n".repeat(60)), 60);
        Checks.same("4: path", Checks.path(x, "a"), 1);
        Checks.same("4: sixty-one", Checks.rules(x, "b\n".repeat(61)), -1);
        Checks.same("4: the tape stays", x.wipe(), 122);
        Checks.same("4: the rules stay", x.many(false), 60);
        Checks.same("4: the last of them too", x.by(false), 59);
        Checks.same("4: sixty and lines that are none", Checks.rules(x, "#\n\n  \n" + "b\n".repeat(60)), 60);
        Checks.same("4: the path stays", x.depth(false), 1);
        Checks.same("4: void ones count", Checks.rules(x, "[\n".repeat(60)), 60);
        Checks.same("4: sixty-one with void ones", Checks.rules(x, "[\n".repeat(60) + "a"), -1);
        Checks.same("4: and the tape stays", x.wipe(), 121);
        Checks.same("4: the 61st line is none", Checks.rules(x, "a\n".repeat(60) + "#a\n \n"), 60);
        Checks.same("4: fewer than before", Checks.rules(x, "a\nb"), 2);
        Checks.fails("4: the third is gone", INDEX, () -> x.rule(2, 0));
        Checks.same("4: of no tape none", x.read(), 0);
        Checks.fails("4: none is left", INDEX, () -> x.rule(0, 0));
        Checks.same("4: a thousand lines", Checks.rules(x, "\n".repeat(999) + "a"), 1);
        Checks.same("4: the last line", x.rule(0, 2), 999);
    }

    private static void readLines() {
        Cases.fits("blanks at the end go", "a  ", "a", true);
        Cases.fits("a blank before stays", " a", " a", true);
        Cases.fits("a blank behind one \\ stays", "a\\ ", "a ", true);
        Cases.fits("and ends that", "a\\   ", "a ", true);
        Cases.fits("a blank behind two \\ goes", "a\\\\  ", "a\\", true);
        Cases.fits("a blank behind three \\ stays", "a\\\\\\ ", "a\\ ", true);
        Cases.fits("a tab stays", "a\t", "a", false);
        Cases.fits("# behind a \\", "\\#a", "#a", true);
        Cases.fits("# that is not the first", " #a", " #a", true);
        Cases.fits("# behind a !", "!#a", "#a", true);
        Cases.fits("! behind a \\", "\\!a", "!a", true);
        Cases.fits("! behind a !", "!!a", "!a", true);
        Cases.fits("byte 13 is as others", "a\r", "a\r", true);
        IgnoreRules x = new IgnoreRules();
        Checks.same("4: no rules", Checks.rules(x, "#a\n\n   \n# \n#\\ \n"), 0);
        Checks.same("4: a ! and blanks", Checks.rules(x, "!  "), 1);
        Checks.same("4: which is void", x.rule(0, 0), 9);
    }

    private static void rule() {
        IgnoreRules x = new IgnoreRules();
        Checks.rules(x, "a\n!b\n\nc/\n#\n/d\n!/e/\nf/g/h\n!i/j/");
        Cases.ruleIs(x, 0, 0, 1, 0);
        Cases.ruleIs(x, 1, 1, 1, 1);
        Cases.ruleIs(x, 2, 2, 1, 3);
        Cases.ruleIs(x, 3, 4, 1, 5);
        Cases.ruleIs(x, 4, 7, 1, 6);
        Cases.ruleIs(x, 5, 4, 3, 7);
        Cases.ruleIs(x, 6, 7, 2, 8);
        Checks.fails("5: rule 7", INDEX, () -> x.rule(7, 0));
        Checks.fails("5: rule -1", INDEX, () -> x.rule(-1, 0));
        Checks.fails("5: rule most", INDEX, () -> x.rule(Integer.MAX_VALUE, 0));
        Checks.fails("5: what 3", ARGUMENT, () -> x.rule(0, 3));
        Checks.fails("5: what -1", ARGUMENT, () -> x.rule(6, -1));
        Checks.fails("5: no rule comes ahead of what", INDEX, () -> x.rule(7, 3));
        Cases.bits("a\\/", 12, 2);
        Cases.bits("a\\\\/", 2, 1);
        Cases.bits("a\\\\\\/", 12, 2);
        Cases.bits("a/ ", 2, 1);
        Cases.bits("a/\\ ", 4, 2);
        Cases.bits("**", 0, 1);
        Cases.bits("**/", 2, 1);
        Cases.bits("/**", 4, 1);
        Cases.bits("**/a", 4, 2);
        Cases.bits("/\\!a", 4, 1);
        Cases.bits("\\!/a", 4, 2);
        Cases.bits("[a/b]", 12, 2);
    }

    private static void ruleVoid() {
        Cases.bits("/", 10, 1);
        Cases.bits("//", 14, 1);
        Cases.bits("///", 14, 2);
        Cases.bits("!", 9, 1);
        Cases.bits("!/", 11, 1);
        Cases.bits("a//b", 12, 3);
        Cases.bits("//a", 12, 2);
        Cases.bits("a//", 14, 2);
        Cases.bits("\\", 8, 1);
        Cases.bits("a\\\\\\", 8, 1);
        Cases.bits("\\\\", 0, 1);
        Cases.bits("[", 8, 1);
        Cases.bits("[]", 8, 1);
        Cases.bits("[!", 8, 1);
        Cases.bits("[!]", 8, 1);
        Cases.bits("[^]", 8, 1);
        Cases.bits("[]]", 0, 1);
        Cases.bits("[!]]", 0, 1);
        Cases.bits("[a\\]", 8, 1);
        Cases.bits("[a\\]]", 0, 1);
        Cases.bits("[a-\\", 8, 1);
        Cases.bits("[a-]", 0, 1);
        Cases.bits("[[]", 0, 1);
        Cases.bits("]", 0, 1);
        Cases.bits("\\[", 0, 1);
        Cases.bits("a]b[", 8, 1);
        Cases.bits("/".repeat(1000), 14, 999);
        Cases.bits("x".repeat(999) + "[", 8, 1);
        Cases.bits("x".repeat(999) + "\\", 8, 1);
        Cases.bits("x".repeat(998) + "[!", 8, 1);
        for (String none : new String[] {"[", "\\", "a[", "[]", "[!]", "a\\", "*[", "/", "!", "//", "/a/", "*[a"}) {
            IgnoreRules x = Checks.with("x\n" + none, "a");
            boolean isVoid = (x.rule(1, 0) & 8) != 0;
            Checks.same("7: " + none + " is void or fits", x.fits(1, true), !isVoid);
        }
    }

    private static void path() {
        IgnoreRules x = new IgnoreRules();
        Checks.rules(x, "a");
        Checks.same("6: one name", Checks.path(x, "a"), 1);
        Checks.same("6: the tape is empty then", x.wipe(), 0);
        Checks.same("6: out", x.out(false), true);
        Checks.same("6: another instead", Checks.path(x, "b/c/d"), 3);
        Checks.same("6: 20 names", Checks.path(x, "a/".repeat(19) + "a"), 20);
        Checks.same("6: 120 bytes", Checks.path(x, "a".repeat(120)), 1);
        Checks.same("6: any bytes", Checks.path(x, "\u0000\u00ff */\\[ #/!"), 3);
        String[] none = {"", "/", "/a", "a/", "a//b", "\n", "a\n", "a/\n/b", "a/".repeat(20) + "a",
            "a".repeat(121), "a".repeat(119) + "/a", "a/".repeat(20), "a".repeat(1000)};
        for (String text : none) {
            Checks.path(x, "a");
            Checks.same("6: path " + text, Checks.path(x, text), -1);
            Checks.fails("6: no path behind " + text, STATE, () -> x.out(false));
            Checks.same("6: the tape stays with " + text, x.wipe(), text.length());
        }
        Checks.same("6: the rules stay", x.rule(0, 1), 1);
        Checks.path(x, "a/");
        Checks.same("6: more comes behind it", x.feed(1, 'b'), 3);
        Checks.same("6: and makes it one", x.path(), 2);
    }

    private static void fitsUnbound() {
        Cases.fits("byte", "a", "a", true);
        Cases.fits("other byte", "a", "b", false);
        Cases.fits("all bytes are taken up", "a", "ab", false);
        Cases.fits("and all of the name are there", "ab", "a", false);
        Cases.fits("in the last name", "a", "x/y/a", true);
        Cases.fits("and in no other", "a", "a/x", false);
        Cases.fits("star takes none", "a*", "a", true);
        Cases.fits("star takes any", "a*b", "axyzb", true);
        Cases.fits("star goes on", "*ab", "aab", true);
        Cases.fits("star does not part", "a*b", "axyzc", false);
        Cases.fits("two stars", "*a*b", "xaxxaxb", true);
        Cases.fits("two stars as one", "a**b", "ab", true);
        Cases.fits("only stars", "***", "abc", true);
        Cases.fits("question mark", "a?c", "abc", true);
        Cases.fits("question mark takes one", "a?", "a", false);
        Cases.fits("question mark takes any", "?", "\u00ff", true);
        Cases.fits("star and question mark", "*?", "a", true);
        Cases.fits("question mark and star", "?*?", "a", false);
        Cases.fits("\\*", "\\*", "a", false);
        Cases.fits("\\* itself", "\\*", "*", true);
        Cases.fits("\\?", "\\?", "?", true);
        Cases.fits("\\[", "\\[a]", "[a]", true);
        Cases.fits("\\\\", "\\\\", "\\", true);
        Cases.fits("\\a", "\\a", "a", true);
        Cases.fits("] alone", "a]", "a]", true);
        Cases.fits("- alone", "a-c", "b", false);
        Cases.fits("! inside", "a!", "a!", true);
        IgnoreRules x = Checks.with("a/\n!a", "a");
        Checks.same("7: for directories alone", x.fits(0, false), false);
        Checks.same("7: directory", x.fits(0, true), true);
        Checks.same("7: turned ones fit, too", x.fits(1, false), true);
    }

    private static void fitsBound() {
        Cases.fits("bound at the first", "/a", "a", true);
        Cases.fits("bound, deeper", "/a", "x/a", false);
        Cases.fits("bound, longer path", "/a", "a/x", false);
        Cases.fits("two names", "a/b", "a/b", true);
        Cases.fits("two names, one", "a/b", "a", false);
        Cases.fits("two names, deeper", "a/b", "x/a/b", false);
        Cases.fits("two names with items", "a*/[b]?", "abc/bx", true);
        Cases.fits("a star takes no name", "a/*", "a", false);
        Cases.fits("a star takes one name", "a/*", "a/b", true);
        Cases.fits("a star takes no two names", "a/*", "a/b/c", false);
        Cases.fits("a star takes no /", "/a*c", "ab/bc", false);
        Cases.fits("question mark takes no /", "/a?c", "a/c", false);
        Cases.fits("set takes no /", "/a[!b]c", "a/c", false);
        IgnoreRules x = Checks.with("/a/b/", "a/b");
        Checks.same("7: bound, file", x.fits(0, false), false);
        Checks.same("7: bound, directory", x.fits(0, true), true);
    }

    private static void fitsDeep() {
        Cases.fits("deep first, none", "**/a", "a", true);
        Cases.fits("deep first, some", "**/a", "x/y/a", true);
        Cases.fits("deep first, further", "**/a", "a/x", false);
        Cases.fits("deep between, none", "a/**/b", "a/b", true);
        Cases.fits("deep between, some", "a/**/b", "a/x/y/b", true);
        Cases.fits("deep between, other end", "a/**/b", "a/x/y/c", false);
        Cases.fits("deep between, twice its end", "a/**/b", "a/b/x/b", true);
        Cases.fits("deep last, none", "a/**", "a", false);
        Cases.fits("deep last, one", "a/**", "a/b", true);
        Cases.fits("deep last, more", "a/**", "a/b/c/d", true);
        Cases.fits("deep last, other first", "a/**", "b/a/c", false);
        Cases.fits("deep alone", "/**", "a", true);
        Cases.fits("deep alone, more", "/**", "a/b/c", true);
        Cases.fits("two deep, too few", "a/**/**", "a", false);
        Cases.fits("two deep, one", "a/**/**", "a/b", true);
        Cases.fits("two deep first", "**/**/a", "a", true);
        Cases.fits("deep on both sides", "**/a/**", "a", false);
        Cases.fits("deep on both sides, one", "**/a/**", "x/a/b", true);
        Cases.fits("deep on both sides, at the end", "**/a/**", "x/a", false);
        Cases.fits("two names between", "**/a/b/**/c", "a/a/b/b/c", true);
        Cases.fits("not bound, so not deep", "**", "a/b", true);
        Cases.fits("three stars are not deep", "/***", "a/b", false);
        Cases.fits("three stars take one", "***/a", "a", false);
        Cases.fits("three stars take just one", "***/a", "x/a", true);
        Cases.fits("stars beside a byte are not deep", "a/**b", "a/x/b", false);
        Cases.fits("stars beside a byte", "a/**b", "a/xb", true);
        Cases.fits("\\** is not deep", "\\**/a", "x/y/a", false);
        Cases.fits("\\** begins with a star", "\\**/a", "*x/a", true);
        Cases.fits("deep ones of many", "**/".repeat(300) + "a", "b/".repeat(19) + "a", true);
        IgnoreRules x = Checks.with("a/**/", "a/b");
        Checks.same("7: deep, file", x.fits(0, false), false);
        Checks.same("7: deep, directory", x.fits(0, true), true);
    }

    private static void fitsSets() {
        Cases.set("[ab]", "ab");
        Cases.set("[a-c]", "abc");
        Cases.set("[a-]", "a-");
        Cases.set("[-a]", "a-");
        Cases.set("[a-c-e]", "abc-e");
        Cases.set("[]]", "]");
        Cases.set("[]a]", "]a");
        Cases.set("[]-a]", "]^_`a");
        Cases.set("[]-]", "]-");
        Cases.set("[\\]]", "]");
        Cases.set("[\\a]", "a");
        Cases.set("[\\\\]", "\\");
        Cases.set("[a\\-c]", "a-c");
        Cases.set("[[-\\]]", "[\\]");
        Cases.set("[\\[-\\]]", "[\\]");
        Cases.set("[z-a]", "");
        Cases.set("[c-cz-a]", "c");
        Cases.set("[a-\\]]", "");
        Cases.set("[--0]", "-./0");
        Cases.set("[---]", "-");
        Cases.set("[+--]", "+,-");
        Cases.set("[a-a]", "a");
        Cases.set("[a!]", "a!");
        Cases.set("[a^]", "a^");
        Cases.set("[\\!a]", "!a");
        Cases.set("[*?[]", "*?[");
        Cases.set("[a\u00fe-\u00ff]", "a\u00fe\u00ff");
        Cases.set("[~-\u0081]", "~\u007f\u0080\u0081");
        Cases.fits("a set and more", "[a-c]]", "b]", true);
        Cases.fits("the first ] ends it", "[a-]b]", "-b]", true);
        Cases.fits("a set takes one byte", "[ab]", "ab", false);
        Cases.fits("a set behind a star", "*[0-9]", "a12", true);
        Cases.fits("sets behind one another", "[a][!a]", "ab", true);
        Cases.fits("a set at the tape's end", "x".repeat(994) + "\n[!-a]", "b", true);
    }

    private static void fitsThrows() {
        IgnoreRules x = new IgnoreRules();
        Checks.rules(x, "a\nb");
        Checks.fails("7: no path", STATE, () -> x.fits(0, true));
        Checks.fails("7: no rule comes ahead of no path", INDEX, () -> x.fits(2, true));
        Checks.path(x, "a");
        Checks.fails("7: rule 2", INDEX, () -> x.fits(2, true));
        Checks.fails("7: rule -1", INDEX, () -> x.fits(-1, false));
        Checks.same("7: all is as before", x.fits(0, false), true);
    }

    private static void out() {
        Cases.outIs("a", "a", true, true);
        Cases.outIs("a", "b", false, false);
        Cases.outIs("a/", "a", false, true);
        Cases.outIs("a\n!a", "a", false, false);
        Cases.outIs("!a\na", "a", true, true);
        Cases.outIs("a\n!a/", "a", true, false);
        Cases.outIs("!a", "a", false, false);
        Cases.outIs("a", "a/b", true, true);
        Cases.outIs("a/", "a/b", true, true);
        Cases.outIs("a/\n!a/b", "a/b", true, true);
        Cases.outIs("a/*\n!a/b", "a/b", false, false);
        Cases.outIs("a/*\n!a/b", "a/b/c", false, false);
        Cases.outIs("a/*\n!a/b", "a/x/c", true, true);
        Cases.outIs("a\n!a/", "a/b", false, false);
        Cases.outIs("b/\n!*", "x/b/c/d", false, false);
        Cases.outIs("!*\nb/", "x/b/c/d", true, true);
        Cases.outUnder("**/b/**\n!c", "b/c/d", false, true, 3);
        Cases.outIs("/", "a/b", false, false);
        IgnoreRules x = new IgnoreRules();
        Checks.rules(x, "a");
        Checks.fails("8: no path", STATE, () -> x.out(true));
        Checks.fails("8: no path, file", STATE, () -> x.out(false));
    }

    private static void by() {
        Cases.byIs("a", "a", 0, 0);
        Cases.byIs("a", "b", -1, -1);
        Cases.byIs("a\na\nb", "a", 1, 1);
        Cases.byIs("a\na/", "a", 0, 1);
        Cases.byIs("a\n!a", "a", 1, 1);
        Cases.byIs("a\nb", "a/b", 0, 0);
        Cases.byIs("!a\nb", "a/b", 1, 1);
        Cases.byIs("a/", "a/b", 0, 0);
        Cases.byIs("b/", "a/b", -1, 0);
        Cases.byIs("", "a/b", -1, -1);
        Cases.byIs("a\n" + "b\n".repeat(59), "a/b", 0, 0);
        Cases.byIs("a\n" + "b\n".repeat(59), "b", 59, 59);
        Cases.byIs("a\n!a\n!b", "a/b", 2, 2);
        Cases.byIs("!a\n!b", "a/c", -1, -1);
        Cases.byIs("a\n!b\na/\nx", "x/a/b", 3, 3);
        Cases.byIs("a\n!b\na/\n!x", "x/a/b", 2, 2);
        IgnoreRules x = new IgnoreRules();
        Checks.fails("9: no path", STATE, () -> x.by(true));
        Checks.fails("9: no path, file", STATE, () -> x.by(false));
    }

    private static void depth() {
        Cases.depthIs("a", "a", 1);
        Cases.depthIs("x", "a/b/c", 3);
        Cases.depthIs("a", "a/b/c", 1);
        Cases.depthIs("b", "a/b/c", 2);
        Cases.depthIs("c", "a/b/c", 3);
        Cases.depthIs("!a", "a/b/c", 3);
        Cases.depthIs("b\na\n!a", "a/b/c", 2);
        Cases.depthIs("c\nb/", "a/b/c", 2);
        Cases.depthIs("*", "a/b/c", 1);
        Cases.depthIs("c/", "a/b/c", 3);
        Cases.depthIs("", "a", 1);
        Cases.depthIs("", "a/".repeat(19) + "a", 20);
        Cases.depthIs("*/", "a/".repeat(19) + "a", 1);
        Cases.depthIs("b/", "a/".repeat(18) + "b/a", 19);
        Cases.depthIs("b/", "a/".repeat(19) + "b", 20);
        Cases.depthIs("**/a/**", "x/".repeat(17) + "a/b/c", 19);
        IgnoreRules x = new IgnoreRules();
        Checks.fails("10: no path", STATE, () -> x.depth(true));
        Checks.fails("10: no path, file", STATE, () -> x.depth(false));
    }

    private static void many() {
        Cases.manyIs("a\nb", "c", 0, 0);
        Cases.manyIs("a\n!a\na/\n/a\nb\n[", "a", 3, 4);
        Cases.manyIs("a", "a/b", 0, 0);
        Cases.manyIs("b\nb/\na/*\na", "a/b", 2, 3);
        Cases.manyIs("*\n".repeat(60), "a/b", 60, 60);
        Cases.manyIs("", "a/b", 0, 0);
        Cases.manyIs("*/\n!*\n".repeat(30), "a", 30, 60);
        IgnoreRules x = new IgnoreRules();
        Checks.fails("11: no path", STATE, () -> x.many(true));
        Checks.fails("11: no path, file", STATE, () -> x.many(false));
    }

    private static void name() {
        IgnoreRules x = Checks.with("!a*/**/[b/\nx\n/a//b/**/c[\n**\n/**\n***/b\\", "ab/b/x");
        Checks.same("12: a* and ab", x.name(0, 0, 0), true);
        Checks.same("12: a* and b", x.name(0, 0, 1), false);
        Checks.same("12: a deep one fits any", x.name(0, 1, 0), true);
        Checks.same("12: the last too", x.name(0, 1, 2), true);
        Checks.same("12: one that ends within a set", x.name(0, 2, 1), false);
        Checks.same("12: not bound, any name", x.name(1, 0, 2), true);
        Checks.same("12: not bound, another", x.name(1, 0, 0), false);
        Checks.same("12: an empty one", x.name(2, 1, 0), false);
        Checks.same("12: a good one of a void rule", x.name(2, 2, 1), true);
        Checks.same("12: a deep one of a void rule", x.name(2, 3, 1), true);
        Checks.same("12: the void one of it", x.name(2, 4, 1), false);
        Checks.same("12: stars that are not deep", x.name(3, 0, 1), true);
        Checks.same("12: deep alone", x.name(4, 0, 1), true);
        Checks.same("12: three stars", x.name(5, 0, 1), true);
        Checks.same("12: behind a \\ that takes nothing", x.name(5, 1, 1), false);
        IgnoreRules y = Checks.with("!b/\n/**/\n" + "*/".repeat(19) + "b", "a/".repeat(19) + "b");
        Checks.same("12: turned and for directories alone", y.name(0, 0, 19), true);
        Checks.same("12: of another name of the path", y.name(0, 0, 18), false);
        Checks.same("12: deep and for directories alone", y.name(1, 0, 19), true);
        Checks.same("12: the last of 20", y.name(2, 19, 19), true);
        Checks.same("12: the first of 20", y.name(2, 0, 0), true);
        voidNames("\\", "\\");
        voidNames("a\\", "a\\");
        voidNames("[", "[");
        voidNames("[a", "[a");
        voidNames("[!a", "b!a");
        voidNames("*[", "a");
        voidNames("[a\\]", "a");
    }

    private static void voidNames(String rule, String path) {
        IgnoreRules x = Checks.with(rule + "\n**/" + rule, path);
        Checks.same("12: the void name " + rule, x.name(0, 0, 0), false);
        Checks.same("12: the void name " + rule + " of two", x.name(1, 1, 0), false);
        Checks.same("12: the deep one before " + rule, x.name(1, 0, 0), true);
        Checks.same("7: the void rule " + rule, x.fits(0, true), false);
    }

    private static void nameThrows() {
        IgnoreRules x = new IgnoreRules();
        Checks.fails("12: no rule", INDEX, () -> x.name(0, 0, 0));
        Checks.rules(x, "a/b\nc");
        Checks.fails("12: rule 2", INDEX, () -> x.name(2, 0, 0));
        Checks.fails("12: rule -1", INDEX, () -> x.name(-1, 0, 0));
        Checks.fails("12: no name comes ahead of no path", INDEX, () -> x.name(0, 2, 0));
        Checks.fails("12: name -1 comes ahead of no path", INDEX, () -> x.name(0, -1, 0));
        Checks.fails("12: no path comes ahead of its names", STATE, () -> x.name(0, 1, 9));
        Checks.path(x, "a/b");
        Checks.fails("12: name 2 of the rule", INDEX, () -> x.name(0, 2, 0));
        Checks.fails("12: name 1 of the other", INDEX, () -> x.name(1, 1, 0));
        Checks.fails("12: name 2 of the path", INDEX, () -> x.name(0, 0, 2));
        Checks.fails("12: name -1 of the path", INDEX, () -> x.name(0, 0, -1));
        Checks.same("12: all is as before", x.name(0, 1, 1), true);
    }
}
