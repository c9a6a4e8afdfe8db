/** "Terms", the names of patterns and their sets: a test for each sentence that names a boundary case. */
public final class NamesTest {
    private static final String ALL = allBytes();

    public static void main(String[] args) {
        star();
        questionMark();
        backslash();
        otherBytes();
        setTurned();
        setWithOneItemAtLeast();
        setRange();
        setRangeBackwards();
        setMinusAtTheEnd();
        setBackslash();
        setBackslashBeforeBracket();
        voidIfEmpty();
        voidIfWithinSet();
        voidBehindBackslash();
        voidFitsNothing();
        deep();
        starsElsewhere();
        Checks.end();
    }

    /** The bytes that a path's name can have. */
    private static String allBytes() {
        StringBuilder built = new StringBuilder();
        for (char one = 0; one < 256; one++) {
            if (one != '/' && one != '\n') {
                built.append(one);
            }
        }
        return built.toString();
    }

    private static String without(String bytes, String gone) {
        StringBuilder built = new StringBuilder();
        for (char one : bytes.toCharArray()) {
            if (gone.indexOf(one) < 0) {
                built.append(one);
            }
        }
        return built.toString();
    }

    /** The one rule, a name between x and y, takes these single bytes there and no others. */
    private static void takesJust(String name, String bytes) {
        IgnoreRules x = new IgnoreRules();
        for (int i = 0; i < ALL.length(); i++) {
            if (i % 100 == 0) {
                x = new IgnoreRules();
                Checks.rules(x, "x" + name + "y");
            }
            char one = ALL.charAt(i);
            Checks.path(x, "x" + one + "y");
            Checks.same(name + " and byte " + (int) one, x.fits(0, false), bytes.indexOf(one) >= 0);
        }
    }

    private static void star() {
        Checks.about("* any bytes, none too");
        Cases.takes("*", "a", ALL.substring(0, 120), ALL.substring(120, 240));
        takesJust("*", ALL);
        Cases.takes("a*", "a", "ab", "a" + "x".repeat(119));
        Cases.takes("*a", "a", "ba", "x".repeat(119) + "a", "aa");
        Cases.takes("a*a", "aa", "aaa", "abaca");
        Cases.leaves("a*a", "a", "ab", "aab", "baa");
        Cases.takes("*a*b*c*", "abc", "xaxbxcx", "cbaabbcc");
        Cases.leaves("*a*b*c*", "acb", "cba", "ab");
        Cases.takes("*".repeat(1000), "a", "a".repeat(120));
        Cases.takes("*a".repeat(120), "a".repeat(120));
        Cases.leaves("*a".repeat(120), "a".repeat(119));
        Cases.leaves("*a".repeat(60) + "b", "a".repeat(120));
    }

    private static void questionMark() {
        Checks.about("? any byte");
        takesJust("?", ALL);
        Cases.takes("?", "a");
        Cases.leaves("?", "ab");
        Cases.leaves("a?", "a");
        Cases.takes("?".repeat(120), "a".repeat(120));
        Cases.leaves("?".repeat(120), "a".repeat(119));
        Cases.leaves("?".repeat(121), "a".repeat(120));
        Cases.takes("*?", "a", "ab");
        Cases.leaves("?*?", "a");
    }

    private static void backslash() {
        Checks.about("\\ and a byte behind it: that byte");
        for (char one : ALL.toCharArray()) {
            Cases.takes("\\" + one, String.valueOf(one));
            Cases.leaves("\\" + one, "\\" + one, one == 'q' ? "r" : "q");
        }
        takesJust("\\*", "*");
        takesJust("\\?", "?");
        takesJust("\\\\", "\\");
        Cases.takes("\\[a]", "[a]");
        Cases.leaves("\\[a]", "a");
        Cases.takes("\\\\*", "\\", "\\a");
        Cases.takes("\\\\\\*", "\\*");
    }

    private static void otherBytes() {
        Checks.about("any other byte: itself");
        for (char one : without(ALL, "*?[\\").toCharArray()) {
            Cases.takes("x" + one + "y", "x" + one + "y");
            Cases.leaves("x" + one + "y", one == 'z' ? "xay" : "xzy", "xy");
        }
        takesJust("a", "a");
        takesJust("A", "A");
        takesJust("]", "]");
        takesJust("-", "-");
        takesJust("!", "!");
        takesJust("^", "^");
        takesJust("#", "#");
        takesJust(" ", " ");
        takesJust(".", ".");
        takesJust("\u0000", "\u0000");
        takesJust("\u0080", "\u0080");
        takesJust("\u00ff", "\u00ff");
    }

    private static void setTurned() {
        Checks.about("perhaps ! or ^ (then all bytes but those)");
        takesJust("[!a]", without(ALL, "a"));
        takesJust("[^a]", without(ALL, "a"));
        takesJust("[!!]", without(ALL, "!"));
        takesJust("[^^]", without(ALL, "^"));
        takesJust("[!^]", without(ALL, "^"));
        takesJust("[^!]", without(ALL, "!"));
        takesJust("[!!a]", without(ALL, "!a"));
        takesJust("[a!]", "a!");
        takesJust("[a^]", "a^");
        takesJust("[!a-c]", without(ALL, "abc"));
        takesJust("[!z-a]", ALL);
        takesJust("[!\u0000-\u00ff]", "");
        takesJust("[!-]", without(ALL, "-"));
        takesJust("[!--0]", without(ALL, "-.0"));
        Cases.leaves("[!a]", "bb");
        Cases.leaves("a[!a]", "a");
    }

    private static void setWithOneItemAtLeast() {
        Checks.about("with one item at least (a ] in its place is that byte)");
        takesJust("[]]", "]");
        takesJust("[!]]", without(ALL, "]"));
        takesJust("[^]]", without(ALL, "]"));
        takesJust("[]a]", "]a");
        takesJust("[!]a]", without(ALL, "]a"));
        takesJust("[]-]", "]-");
        takesJust("[]-a]", "]^_`a");
        takesJust("[!]-a]", without(ALL, "]^_`a"));
        Cases.takes("[]]]", "]]");
        Cases.takes("[a]]", "a]");
        Cases.leaves("[a]]", "a", "]");
        Cases.takes("[a][]]", "a]");
    }

    private static void setRange() {
        Checks.about("two with - between (all from the first to the second)");
        takesJust("[a-c]", "abc");
        takesJust("[a-a]", "a");
        takesJust("[a-b]", "ab");
        takesJust("[a-cx-z]", "abcxyz");
        takesJust("[a-c-e]", "abc-e");
        takesJust("[ab-d]", "abcd");
        takesJust("[--0]", "-.0");
        takesJust("[---]", "-");
        takesJust("[+--]", "+,-");
        takesJust("[a---]", "-");
        takesJust("[!---]", without(ALL, "-"));
        takesJust("[[-^]", "[\\]^");
        takesJust("[\u0000-\u00ff]", ALL);
        takesJust("[\u00fe-\u00ff]", "\u00fe\u00ff");
        takesJust("[\u0000-\u0001]", "\u0000\u0001");
        takesJust("[\u007f-\u0080]", "\u007f\u0080");
        takesJust("[ -!]", " !");
        takesJust("[\t-\r]", "\t\u000b\u000c\r");
    }

    private static void setRangeBackwards() {
        Checks.about("none, if that is less");
        takesJust("[b-a]", "");
        takesJust("[z-a]", "");
        takesJust("[\u00ff-\u0000]", "");
        takesJust("[\u0080-\u007f]", "");
        takesJust("[!b-a]", ALL);
        takesJust("[b-ax]", "x");
        takesJust("[xb-a]", "x");
        takesJust("[a--]", "");
        Cases.bits("[b-a]", 0, 1);
    }

    private static void setMinusAtTheEnd() {
        Checks.about("with - between that isn't the last before the ]");
        takesJust("[a-]", "a-");
        takesJust("[-]", "-");
        takesJust("[--]", "-");
        takesJust("[-a]", "-a");
        takesJust("[-a-]", "-a");
        takesJust("[a-c-]", "abc-");
        takesJust("[^-]", without(ALL, "-"));
        takesJust("[^--]", without(ALL, "-"));
        Cases.takes("[a-]b]", "ab]", "-b]");
        Cases.leaves("[a-]b]", "]", "a", "b");
        Cases.takes("[!-]b", "ab");
    }

    private static void setBackslash() {
        Checks.about("\\ and a byte stands for that byte here, too");
        takesJust("[\\a]", "a");
        takesJust("[\\\\]", "\\");
        takesJust("[a\\\\]", "a\\");
        takesJust("[\\!a]", "!a");
        takesJust("[\\^a]", "^a");
        takesJust("[!\\!]", without(ALL, "!"));
        takesJust("[\\-]", "-");
        takesJust("[a\\-c]", "a-c");
        takesJust("[\\a-\\c]", "abc");
        takesJust("[a-\\c]", "abc");
        takesJust("[\\a-c]", "abc");
        takesJust("[\\+-\\-]", "+,-");
        takesJust("[\\--0]", "-.0");
        takesJust("[\\c-\\a]", "");
        takesJust("[\\\\-^]", "\\]^");
        takesJust("[[-\\\\]", "[\\");
        takesJust("[a-\\cx]", "abcx");
        takesJust("[!\\a-\\c]", without(ALL, "abc"));
    }

    private static void setBackslashBeforeBracket() {
        Checks.about("a \\ takes the byte behind it also when it is a ]");
        takesJust("[\\]]", "]");
        takesJust("[a\\]]", "a]");
        takesJust("[\\]a]", "]a");
        takesJust("[!\\]]", without(ALL, "]"));
        takesJust("[[-\\]]", "[\\]");
        takesJust("[\\]-a]", "]^_`a");
        takesJust("[a-\\]]", "");
        takesJust("[]\\]]", "]");
        Cases.bits("[\\]", 8, 1);
        Cases.bits("[a\\]", 8, 1);
        Cases.bits("[a-\\]", 8, 1);
        Cases.bits("[!\\]", 8, 1);
        Cases.bits("[\\\\]", 0, 1);
        Cases.bits("[a\\\\]", 0, 1);
        Cases.bits("[\\\\\\]", 8, 1);
    }

    /** The rule is void, and name k of it, which makes it so, fits nothing. */
    private static void isVoid(String rule, int bits, int names, int k) {
        Cases.bits(rule, bits | 8, names);
        for (String one : new String[] {"a", "\\", "[", "[a", "[]", "]", "b]", "*", "ab", "!", "a\\", "-"}) {
            IgnoreRules x = Checks.with(rule, one);
            Checks.same(rule + " fits the file " + one, x.fits(0, false), false);
            Checks.same(rule + " fits the directory " + one, x.fits(0, true), false);
            Checks.same("name " + k + " of " + rule + " fits " + one, x.name(0, k, 0), false);
        }
    }

    private static void voidIfEmpty() {
        Checks.about("A name that is empty makes the rule VOID");
        isVoid("/", 2, 1, 0);
        isVoid("!", 1, 1, 0);
        isVoid("!/", 3, 1, 0);
        isVoid("//", 6, 1, 0);
        isVoid("!//", 7, 1, 0);
        isVoid("///", 6, 2, 0);
        isVoid("///", 6, 2, 1);
        isVoid("//a", 4, 2, 0);
        isVoid("a//", 6, 2, 1);
        isVoid("a//b", 4, 3, 1);
        isVoid("**//a", 4, 3, 1);
        isVoid("/**//", 6, 2, 1);
        Cases.bits("/a", 4, 1);
        Cases.bits("a/", 2, 1);
    }

    private static void voidIfWithinSet() {
        Checks.about("one that ends within a set makes the rule VOID");
        for (String name : new String[] {"[", "[]", "[!", "[^", "[!]", "[^]", "[a", "[!a", "[a-", "[a-b", "[]a", "[[",
            "a[", "*[", "?[", "[a][", "]["}) {
            isVoid(name, 0, 1, 0);
            isVoid("/" + name, 4, 1, 0);
            isVoid(name + "/", 2, 1, 0);
            isVoid("a/" + name, 4, 2, 1);
            isVoid(name + "/b]", 4, 2, 0);
        }
        isVoid("x".repeat(999) + "[", 0, 1, 0);
        isVoid("x".repeat(998) + "[!", 0, 1, 0);
        isVoid("[" + "x".repeat(999), 0, 1, 0);
        Cases.bits("[]]", 0, 1);
        Cases.bits("[!]]", 0, 1);
        Cases.bits("[[]", 0, 1);
        Cases.bits("]", 0, 1);
        Cases.bits("\\[", 0, 1);
        Cases.bits("[" + "x".repeat(998) + "]", 0, 1);
    }

    private static void voidBehindBackslash() {
        Checks.about("or behind a \\ that takes nothing makes the rule VOID");
        for (String name : new String[] {"\\", "a\\", "\\\\\\", "*\\", "?\\", "[a]\\", "[\\", "[a\\", "[a-\\", "[!\\"}) {
            isVoid(name, 0, 1, 0);
            isVoid("/" + name, 4, 1, 0);
            isVoid("a/" + name, 4, 2, 1);
            isVoid(name + "/b", 4, 2, 0);
        }
        isVoid("a\\/", 4, 2, 0);
        isVoid("a\\/", 4, 2, 1);
        isVoid("x".repeat(999) + "\\", 0, 1, 0);
        isVoid("\\".repeat(999), 0, 1, 0);
        Cases.bits("\\".repeat(1000), 0, 1);
        Cases.bits("\\\\", 0, 1);
        Cases.bits("a\\ ", 0, 1);
    }

    private static void voidFitsNothing() {
        Checks.about("it fits nothing (and the name neither)");
        for (String rule : new String[] {"**//", "/**//", "*[", "**/[a", "a/**/[", "*//*", "**/\\", "[*"}) {
            for (String path : new String[] {"a", "a/b", "a/[", "a/[a", "a/\\", "a/b/["}) {
                IgnoreRules x = Checks.with(rule, path);
                Checks.same("7: " + rule + ", " + path, x.fits(0, true) || x.fits(0, false), false);
                Checks.same("8: " + rule + ", " + path, x.out(true) || x.out(false), false);
                Checks.same("9: " + rule + ", " + path, x.by(true), -1);
                Checks.same("11: " + rule + ", " + path, x.many(true), 0);
            }
        }
        IgnoreRules x = Checks.with("*\n!*[\n!**//", "a/b");
        Checks.same("9: a void rule decides nothing", x.by(true), 0);
        Checks.same("8: a void rule turns nothing", x.out(true), true);
        IgnoreRules y = Checks.with("a/[/**", "a/[/c");
        Checks.same("12: the name that is not void", y.name(0, 0, 0), true);
        Checks.same("12: the name that is", y.name(0, 1, 1), false);
        Checks.same("12: the deep one", y.name(0, 2, 2), true);
        IgnoreRules z = Checks.with("*//b", "a");
        Checks.same("12: one that fits", z.name(0, 0, 0), true);
        Checks.same("12: an empty one right behind one that fits", z.name(0, 1, 0), false);
    }

    private static void deep() {
        Checks.about("A name ** in a bound pattern is DEEP");
        Cases.takes("/**", "a", "a/b", "a/b/c");
        Cases.takes("**/a", "a", "x/a", "x/y/a");
        Cases.takes("a/**", "a/b", "a/b/c");
        Cases.takes("a/**/b", "a/b", "a/x/b", "a/x/y/b");
        Cases.bits("/**", 4, 1);
        Cases.bits("/**/", 6, 1);
        IgnoreRules x = Checks.with("/**/\n!/**", "a/b/c");
        Checks.same("for directories alone", x.fits(0, true), true);
        Checks.same("for these alone", x.fits(0, false), false);
        Checks.same("turned", x.fits(1, false), true);
    }

    private static void starsElsewhere() {
        Checks.about("elsewhere stars are as one");
        Cases.bits("**", 0, 1);
        Cases.bits("**/", 2, 1);
        Cases.takes("**", "a", "a/b");
        Cases.takes("a**b", "ab", "axb", "x/ab");
        Cases.takes("/***", "a");
        Cases.leaves("/***", "a/b");
        Cases.takes("***/a", "x/a");
        Cases.leaves("***/a", "a", "x/y/a");
        Cases.takes("/*", "a");
        Cases.leaves("/*", "a/b");
        Cases.takes("/**a", "a", "xa");
        Cases.leaves("/**a", "x/a");
        Cases.takes("/a**", "a", "ax");
        Cases.leaves("/a**", "a/x");
        Cases.takes("a/**b/c", "a/xb/c");
        Cases.leaves("a/**b/c", "a/x/b/c");
        Cases.takes("\\**/a", "*/a", "*x/a");
        Cases.leaves("\\**/a", "a", "x/y/a");
        Cases.takes("*\\*/a", "*/a", "x*/a");
        Cases.leaves("*\\*/a", "a", "x/y/a");
        Cases.leaves("\\*\\*/a", "a", "x/a", "x/y/a");
        Cases.takes("\\*\\*/a", "**/a");
        Cases.takes("[*]*/a", "*x/a");
        Cases.leaves("[*]*/a", "a", "x/a");
    }
}
