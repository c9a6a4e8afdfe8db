/** Questions that many tests ask: a list of rules and a path, and what is due for them. */
public final class Cases {
    private Cases() {
    }

    public static void fits(String what, String rules, String path, boolean due) {
        IgnoreRules x = Checks.with(rules, path);
        int last = rules.indexOf('\n') < 0 ? 0 : 1;
        Checks.same("7: " + what, x.fits(last, false), due);
    }

    /** The one rule fits each of these paths, as a file. */
    public static void takes(String rule, String... paths) {
        for (String path : paths) {
            fits(rule + " and " + path, rule, path, true);
        }
    }

    /** The one rule fits none of these paths, not even as directories. */
    public static void leaves(String rule, String... paths) {
        for (String path : paths) {
            IgnoreRules x = Checks.with(rule, path);
            Checks.same("7: " + rule + " and " + path, x.fits(0, false) || x.fits(0, true), false);
        }
    }

    public static void ruleIs(IgnoreRules x, int i, int bits, int names, int line) {
        Checks.same("5: bits of rule " + i, x.rule(i, 0), bits);
        Checks.same("5: names of rule " + i, x.rule(i, 1), names);
        Checks.same("5: line of rule " + i, x.rule(i, 2), line);
    }

    public static void bits(String rule, int bits, int names) {
        IgnoreRules x = new IgnoreRules();
        Checks.same("5: one rule " + rule, Checks.rules(x, rule), 1);
        Checks.same("5: bits of " + rule, x.rule(0, 0), bits);
        Checks.same("5: names of " + rule, x.rule(0, 1), names);
        Checks.same("5: line of " + rule, x.rule(0, 2), 0);
    }

    public static void outIs(String rules, String path, boolean file, boolean directory) {
        IgnoreRules x = Checks.with(rules, path);
        Checks.same("8: " + rules + " for the file " + path, x.out(false), file);
        Checks.same("8: " + rules + " for the directory " + path, x.out(true), directory);
    }

    public static void outUnder(String rules, String path, boolean parent, boolean due, int names) {
        IgnoreRules x = Checks.with(rules, path.substring(0, path.lastIndexOf('/')));
        Checks.same("8: " + rules + " above " + path, x.out(true), parent);
        Checks.path(x, path);
        Checks.same("8: " + rules + " for " + path, x.out(false), due);
        Checks.same("8: " + rules + " decided for " + path, x.depth(false), names);
    }

    public static void byIs(String rules, String path, int file, int directory) {
        IgnoreRules x = Checks.with(rules, path);
        Checks.same("9: " + rules + " for the file " + path, x.by(false), file);
        Checks.same("9: " + rules + " for the directory " + path, x.by(true), directory);
    }

    public static void depthIs(String rules, String path, int due) {
        IgnoreRules x = Checks.with(rules, path);
        Checks.same("10: " + rules + " for the file " + path, x.depth(false), due);
        Checks.same("10: " + rules + " for the directory " + path, x.depth(true), due);
    }

    public static void manyIs(String rules, String path, int file, int directory) {
        IgnoreRules x = Checks.with(rules, path);
        Checks.same("11: " + rules + " for the file " + path, x.many(false), file);
        Checks.same("11: " + rules + " for the directory " + path, x.many(true), directory);
    }

    /** A set takes what it is told to take, and with ! or ^ all but that. */
    public static void set(String pattern, String taken) {
        String rest = pattern.substring(1);
        IgnoreRules x = new IgnoreRules();
        IgnoreRules y = new IgnoreRules();
        for (char one = 0; one < 256; one++) {
            if (one % 32 == 0) {
                x = new IgnoreRules();
                y = new IgnoreRules();
                Checks.rules(x, pattern);
                Checks.rules(y, "[!" + rest + "\n[^" + rest);
            }
            if (one == '/' || one == '\n') {
                continue;
            }
            boolean due = taken.indexOf(one) >= 0;
            Checks.path(x, String.valueOf(one));
            Checks.path(y, String.valueOf(one));
            Checks.same("7: " + pattern + " and byte " + (int) one, x.fits(0, false), due);
            Checks.same("7: " + pattern + " with ! and byte " + (int) one, y.fits(0, false), !due);
            Checks.same("7: " + pattern + " with ^ and byte " + (int) one, y.fits(1, false), !due);
        }
    }
}
