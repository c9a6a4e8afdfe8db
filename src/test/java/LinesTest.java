/** "Terms", the tape and its lines: a test for each sentence that names a boundary case. */
public final class LinesTest {
    private static final String BACKSLASH = "\\";

    public static void main(String[] args) {
        tapeHasUpTo1000Bytes();
        byte10PartsLines();
        blanksAtTheEndGo();
        blankBehindOddStays();
        emptyLineIsNoRule();
        lineWithHashIsNoRule();
        turned();
        directoriesAlone();
        bound();
        eachSlashPartsNames();
        Checks.end();
    }

    private static void tapeHasUpTo1000Bytes() {
        Checks.about("THE TAPE has up to 1000 bytes");
        IgnoreRules x = new IgnoreRules();
        for (int fed = 8; fed <= 1000; fed += 8) {
            Checks.same("feed", x.feed(8, 0x6161616161616161L), fed);
        }
        for (int n = 1; n <= 8; n++) {
            Checks.same(n + " more on a full tape", x.feed(n, 0), -1);
        }
        Checks.same("a full tape is read whole", x.read(), 1);
        Checks.same("and is empty then", x.feed(1, 'a'), 1);
        x.wipe();
        for (int n = 1; n <= 8; n++) {
            IgnoreRules y = new IgnoreRules();
            Checks.feed(y, "x".repeat(1001 - n));
            Checks.same(n + " more, one of them too many", y.feed(n, 0), -1);
            Checks.same("none of them came", y.wipe(), 1001 - n);
            Checks.feed(y, "x".repeat(1000 - n));
            Checks.same(n + " more, just full", y.feed(n, 0), 1000);
        }
        IgnoreRules z = new IgnoreRules();
        Checks.same("the last byte counts", Checks.rules(z, "\n".repeat(999) + "a"), 1);
        Cases.ruleIs(z, 0, 0, 1, 999);
        Checks.same("a last byte 10, too", Checks.rules(z, "x".repeat(999) + "\n"), 1);
        Checks.same("a last blank goes", Checks.rules(z, "\n".repeat(998) + "a "), 1);
        Checks.path(z, "a");
        Checks.same("and the rest fits", z.fits(0, false), true);
    }

    private static void byte10PartsLines() {
        Checks.about("LINES (byte 10 parts them)");
        linesAre("a\nb", 0, 1);
        linesAre("a\nb\n", 0, 1);
        linesAre("\na", 1);
        linesAre("a\n\n\nb", 0, 3);
        linesAre("a", 0);
        linesAre("\n#\n \na\n#\nb", 3, 5);
        linesAre("");
        linesAre("\n");
        linesAre("\n".repeat(1000));
        linesAre("a\rb", 0);
        linesAre("a\u000bb\u000cc\u0085d\u0000e", 0);
        Checks.about("byte 10 parts them: a \\ or a [ before it takes nothing of the next line");
        IgnoreRules x = Checks.with("a\\\nb\n[a\n]", "]");
        Checks.same("rule 0 is void", x.rule(0, 0), 8);
        Checks.same("rule 1 is not", x.rule(1, 0), 0);
        Checks.same("rule 2 is void", x.rule(2, 0), 8);
        Checks.same("rule 3 is not", x.rule(3, 0), 0);
        Checks.same("and fits", x.fits(3, false), true);
    }

    private static void linesAre(String tape, int... due) {
        IgnoreRules x = new IgnoreRules();
        Checks.same("rules of " + tape, Checks.rules(x, tape), due.length);
        for (int i = 0; i < due.length; i++) {
            Checks.same("line of rule " + i + " of " + tape, x.rule(i, 2), due[i]);
        }
    }

    private static void blanksAtTheEndGo() {
        Checks.about("blanks (byte 32) at a line's end go");
        for (int blanks = 0; blanks < 20; blanks++) {
            Cases.takes("a" + " ".repeat(blanks), "a");
        }
        Cases.takes("a" + " ".repeat(999), "a");
        Cases.takes(" a ", " a");
        Cases.leaves(" a", "a");
        Cases.takes("a b ", "a b");
        Cases.leaves("a\t", "a");
        Cases.takes("a\t ", "a\t");
        Cases.takes("a\u00a0 ", "a\u00a0");
        Cases.leaves("a \t", "a");
        Cases.bits("a/  ", 2, 1);
        Cases.bits("!  ", 9, 1);
        Cases.bits("a /", 2, 1);
        IgnoreRules x = Checks.with("a  \n b  \nc", "a");
        Checks.same("of a line that is not the last", x.fits(0, false), true);
        Checks.path(x, " b");
        Checks.same("of one between", x.fits(1, false), true);
    }

    private static void blankBehindOddStays() {
        Checks.about("but one behind an odd number of \\ stays, and ends that");
        for (int many = 0; many < 12; many++) {
            String rule = "a" + BACKSLASH.repeat(many);
            String kept = "a" + BACKSLASH.repeat(many / 2);
            for (int blanks = 1; blanks < 4; blanks++) {
                String line = rule + " ".repeat(blanks);
                Cases.takes(line, many % 2 == 1 ? kept + " " : kept);
                Cases.leaves(line, many % 2 == 1 ? kept : kept + " ", kept + "  ");
            }
        }
        Cases.takes("\\ ", " ");
        Cases.takes("\\  ", " ");
        Cases.takes("a \\ ", "a  ");
        Cases.takes("a\\ b ", "a b");
        Cases.takes("a\\ \\  ", "a  ");
        Cases.takes("!\\ ", " ");
        Cases.bits(BACKSLASH.repeat(999) + " ", 0, 1);
        Cases.bits(BACKSLASH.repeat(998) + " ", 0, 1);
        IgnoreRules x = new IgnoreRules();
        Checks.same("a \\ at the end of the line before is none", Checks.rules(x, "a\\\n "), 1);
    }

    private static void emptyLineIsNoRule() {
        Checks.about("a line that is empty then is no rule");
        for (String tape : new String[] {"", " ", "   ", "\n", " \n ", "\n\n   \n", " ".repeat(1000)}) {
            Checks.same(tape, Checks.rules(new IgnoreRules(), tape), 0);
        }
        Checks.same("a blank that stays is one", Checks.rules(new IgnoreRules(), "\\ "), 1);
        Cases.bits("!", 9, 1);
        Cases.bits("/", 10, 1);
    }

    private static void lineWithHashIsNoRule() {
        Checks.about("a line that begins with # is no rule");
        for (String tape : new String[] {"#", "#a", "# ", "#\\ ", "##", "#!a", "#/", "#a\n#b\n#"}) {
            Checks.same(tape, Checks.rules(new IgnoreRules(), tape), 0);
        }
        Cases.takes("\\#", "#");
        Cases.takes(" #", " #");
        Cases.takes("!#", "#");
        Cases.takes("a#", "a#");
        Cases.takes("/#", "#");
        Cases.takes("*#", "#");
    }

    private static void turned() {
        Checks.about("If it begins with !, the rule is TURNED, and this goes");
        Cases.bits("!a", 1, 1);
        Cases.takes("!a", "a");
        Cases.leaves("!a", "!a");
        Cases.bits("!!a", 1, 1);
        Cases.takes("!!a", "!a");
        Cases.leaves("!!a", "a");
        Cases.bits("\\!a", 0, 1);
        Cases.takes("\\!a", "!a");
        Cases.bits(" !a", 0, 1);
        Cases.takes(" !a", " !a");
        Cases.bits("a!", 0, 1);
        Cases.bits("/!a", 4, 1);
        Cases.takes("/!a", "!a");
        Cases.bits("!", 9, 1);
        Cases.bits("!!", 1, 1);
        Cases.bits("! a", 1, 1);
        Cases.takes("! a", " a");
    }

    private static void directoriesAlone() {
        Checks.about("then if it ends with / (not behind an odd number of \\), it is for DIRECTORIES alone, and this goes");
        for (int many = 0; many < 12; many++) {
            boolean odd = many % 2 == 1;
            Cases.bits("a" + BACKSLASH.repeat(many) + "/", odd ? 12 : 2, odd ? 2 : 1);
            Cases.bits("!" + BACKSLASH.repeat(many + 1) + "/", odd ? 3 : 13, odd ? 1 : 2);
            Cases.bits(BACKSLASH.repeat(many + 1) + "/ ", odd ? 2 : 12, odd ? 1 : 2);
        }
        Cases.bits("a/", 2, 1);
        Cases.bits("a", 0, 1);
        Cases.bits("/a", 4, 1);
        Cases.bits("/", 10, 1);
        Cases.bits("!/", 11, 1);
        Cases.bits("a//", 14, 2);
        Cases.bits("a/\\ ", 4, 2);
        Cases.bits("\\ /", 2, 1);
        IgnoreRules x = Checks.with("a/\nb\\\\/", "a");
        Checks.same("the file", x.fits(0, false), false);
        Checks.same("the directory", x.fits(0, true), true);
        Checks.path(x, "b\\");
        Checks.same("behind two \\, the file", x.fits(1, false), false);
        Checks.same("behind two \\, the directory", x.fits(1, true), true);
    }

    private static void bound() {
        Checks.about("then if it has a / anywhere still, it is BOUND, and if it begins with one, that goes");
        Cases.bits("a", 0, 1);
        Cases.bits("a/", 2, 1);
        Cases.bits("/a", 4, 1);
        Cases.bits("/a/", 6, 1);
        Cases.bits("!/a", 5, 1);
        Cases.bits("!a/b/", 7, 2);
        Cases.bits("a/b", 4, 2);
        Cases.bits("a//", 14, 2);
        Cases.bits("//", 14, 1);
        Cases.bits("//a", 12, 2);
        Cases.bits("///a", 12, 3);
        Cases.bits("\\/a", 12, 2);
        Cases.bits("[/]", 12, 2);
        Cases.bits("x".repeat(998) + "/a", 4, 2);
        Cases.takes("a", "a", "x/a", "x/y/a");
        Cases.takes("/a", "a");
        Cases.leaves("/a", "x/a", "x/y/a");
        Cases.leaves("//a", "a");
    }

    private static void eachSlashPartsNames() {
        Checks.about("NAMES with / between (each / parts them)");
        Cases.bits("a/b/c/d", 4, 4);
        Cases.bits("/" + "a/".repeat(400), 6, 400);
        Cases.bits("/".repeat(1000), 14, 999);
        Cases.bits("a[b/c]d", 12, 2);
        Cases.bits("a\\/b", 12, 2);
        Cases.bits("a\\\\/b", 4, 2);
        IgnoreRules x = Checks.with("a[b/c]d\na\\/b", "c]d/b/a[b/a\\");
        Checks.same("what is behind the / of a set", x.name(0, 1, 0), true);
        Checks.same("what is behind the / of a \\", x.name(1, 1, 1), true);
        Checks.same("what is before the / of a set", x.name(0, 0, 2), false);
        Checks.same("what is before the / of a \\", x.name(1, 0, 3), false);
    }
}
