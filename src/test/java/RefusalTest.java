import java.util.ArrayList;
import java.util.List;
import java.util.function.ToLongFunction;

/**
 * "Methods throw what their comments name, the one named first when several would do; a call that throws, or
 * answers NONE or false, changes nothing (but for path())." And the 512 calls that an object is used for.
 */
public final class RefusalTest {
    private static final String ARGUMENT = "throws.IllegalArgumentException";
    private static final String STATE = "throws.IllegalStateException";
    private static final String INDEX = "throws.IndexOutOfBoundsException";
    private static final int[] WRONG = {Integer.MIN_VALUE, Integer.MIN_VALUE + 1, -256, -2, -1, 60, 61, 256, 1 << 16,
        Integer.MAX_VALUE - 1, Integer.MAX_VALUE};
    private static final boolean[] KINDS = {false, true};
    private static final String RULES = "a\n!b/\nx/**/y[";

    private record Call(String text, ToLongFunction<IgnoreRules> made) {
        String answer(IgnoreRules x) {
            try {
                return String.valueOf(made.applyAsLong(x));
            } catch (RuntimeException e) {
                return "throws." + e.getClass().getSimpleName();
            }
        }
    }

    /** What is done to a new object before a call is tried; no rules, no path or no tape when they are empty. */
    private record State(String text, String rules, String path, String tape) {
        IgnoreRules make() {
            IgnoreRules x = new IgnoreRules();
            Checks.rules(x, rules);
            if (!path.isEmpty()) {
                Checks.path(x, path);
            }
            Checks.feed(x, tape);
            return x;
        }
    }

    private static final State NEW = new State("new", "", "", "");
    private static final State RULES_ALONE = new State("rules alone", RULES, "", "c/d");
    private static final State PATH_ALONE = new State("a path alone", "", "a/b", "c/d");
    private static final State BOTH = new State("rules and a path", RULES, "a/b", "c/d");
    private static final State NO_PATH_ON_TAPE = new State("no path on the tape", RULES, "a/b", "c//d");
    private static final State FULL = new State("a full tape", RULES, "a/b", "x".repeat(999) + "[");
    private static final State TOO_MANY_RULES = new State("too many rules on the tape", RULES, "a/b", "c\n".repeat(61));
    private static final State[] STATES = {NEW, RULES_ALONE, PATH_ALONE, BOTH, NO_PATH_ON_TAPE, FULL, TOO_MANY_RULES};

    public static void main(String[] args) {
        feedThrows();
        feedNone();
        readNone();
        ruleThrows();
        fitsThrows();
        pathIsNeeded();
        nameThrows();
        questionsChangeNothing();
        pathNone();
        objectsAreApart();
        all512Calls();
        dearest512Calls();
        Checks.end();
    }

    private static void refused(State state, String due, String text, ToLongFunction<IgnoreRules> made) {
        Call call = new Call(text, made);
        IgnoreRules x = state.make();
        sameText(state.text + ": " + text, call.answer(x), due);
        sameText(state.text + ": behind " + text, closing(x), closing(state.make()));
    }

    private static void sameText(String what, String got, String due) {
        Checks.same(what + " answered " + got + ", due is " + due + "; that this is the same", got.equals(due), true);
    }

    private static void feedThrows() {
        Checks.about("feed: IllegalArgumentException, ahead of that: n is not 1 to 8");
        for (State state : STATES) {
            for (int n : WRONG) {
                refused(state, ARGUMENT, "feed(" + n + ", 'q')", x -> x.feed(n, 'q'));
            }
            refused(state, ARGUMENT, "feed(0, 'q')", x -> x.feed(0, 'q'));
            refused(state, ARGUMENT, "feed(9, 'q')", x -> x.feed(9, 'q'));
        }
    }

    private static void feedNone() {
        Checks.about("feed: NONE when there would be more than 1000");
        for (int n = 1; n <= 8; n++) {
            int many = n;
            refused(FULL, "-1", "feed(" + n + ", -1)", x -> x.feed(many, -1));
            for (int free = 0; free < n; free++) {
                State nearly = new State(free + " free", RULES, "a/b", "\n".repeat(999 - free) + "q");
                refused(nearly, "-1", "feed(" + n + ", -1)", x -> x.feed(many, -1));
            }
        }
    }

    private static void readNone() {
        Checks.about("read: NONE when they would be more than 60");
        refused(TOO_MANY_RULES, "-1", "read()", x -> x.read());
        for (int many = 61; many <= 500; many += 73) {
            State more = new State(many + " rules", RULES, "a/b", "[\n".repeat(many));
            refused(more, "-1", "read()", x -> x.read());
        }
        State behindOthers = new State("61 behind 60", "a\n".repeat(60), "a", "b\n".repeat(60) + "b");
        refused(behindOthers, "-1", "read()", x -> x.read());
        IgnoreRules x = behindOthers.make();
        Checks.same("read() of 61", x.read(), -1);
        Checks.same("read() of 61 again", x.read(), -1);
        Checks.same("the 60 before stay", x.by(false), 59);
        Checks.same("wipe()", x.wipe(), 121);
        Checks.same("read() of 60", Checks.rules(x, "!a\n".repeat(60)), 60);
        Checks.same("and they are the rules", x.rule(59, 0), 1);
    }

    private static void ruleThrows() {
        for (State state : STATES) {
            int rules = state.rules.isEmpty() ? 0 : 3;
            Checks.about("rule: IndexOutOfBoundsException: there is no such rule (named first)");
            for (int what : new int[] {0, 1, 2, 3, -1, Integer.MIN_VALUE, Integer.MAX_VALUE}) {
                for (int i : WRONG) {
                    refused(state, INDEX, "rule(" + i + ", " + what + ")", x -> x.rule(i, what));
                }
                refused(state, INDEX, "rule(" + rules + ", " + what + ")", x -> x.rule(rules, what));
            }
            Checks.about("rule: IllegalArgumentException: another what");
            for (int what : WRONG) {
                for (int i = 0; i < rules; i++) {
                    int one = i;
                    refused(state, ARGUMENT, "rule(" + i + ", " + what + ")", x -> x.rule(one, what));
                    refused(state, ARGUMENT, "rule(" + i + ", 3)", x -> x.rule(one, 3));
                }
            }
        }
    }

    private static void fitsThrows() {
        for (State state : STATES) {
            int rules = state.rules.isEmpty() ? 0 : 3;
            for (boolean directory : KINDS) {
                Checks.about("fits: IndexOutOfBoundsException: there is no such rule (named first)");
                for (int i : WRONG) {
                    refused(state, INDEX, "fits(" + i + ")", x -> x.fits(i, directory) ? 1 : 0);
                }
                refused(state, INDEX, "fits(" + rules + ")", x -> x.fits(rules, directory) ? 1 : 0);
                Checks.about("fits: IllegalStateException: there is no path");
                for (int i = 0; i < rules && state.path.isEmpty(); i++) {
                    int one = i;
                    refused(state, STATE, "fits(" + i + ")", x -> x.fits(one, directory) ? 1 : 0);
                }
            }
        }
    }

    private static void pathIsNeeded() {
        Checks.about("IllegalStateException: there is no path");
        for (State state : new State[] {NEW, RULES_ALONE}) {
            for (boolean directory : KINDS) {
                refused(state, STATE, "out(" + directory + ")", x -> x.out(directory) ? 1 : 0);
                refused(state, STATE, "by(" + directory + ")", x -> x.by(directory));
                refused(state, STATE, "depth(" + directory + ")", x -> x.depth(directory));
                refused(state, STATE, "many(" + directory + ")", x -> x.many(directory));
            }
        }
    }

    private static void nameThrows() {
        for (State state : STATES) {
            int rules = state.rules.isEmpty() ? 0 : 3;
            boolean noPath = state.path.isEmpty();
            Checks.about("name: IndexOutOfBoundsException: there is no such rule, or name in it (named first)");
            for (int wrong : WRONG) {
                refusedName(state, INDEX, wrong, 0, 0);
                refusedName(state, INDEX, wrong, wrong, wrong);
            }
            refusedName(state, INDEX, rules, 0, 0);
            int[] names = {1, 1, 3};
            for (int i = 0; i < rules; i++) {
                Checks.about("name: IndexOutOfBoundsException: there is no such name in the rule (named first)");
                refusedName(state, INDEX, i, names[i], 0);
                refusedName(state, INDEX, i, names[i], 2);
                for (int wrong : WRONG) {
                    refusedName(state, INDEX, i, wrong, 0);
                    refusedName(state, INDEX, i, wrong, wrong);
                }
                Checks.about("name: IllegalStateException: there is no path (named before its names)");
                for (int k = 0; k < names[i]; k++) {
                    for (int wrong : WRONG) {
                        refusedName(state, noPath ? STATE : INDEX, i, k, wrong);
                    }
                    refusedName(state, noPath ? STATE : INDEX, i, k, 2);
                }
            }
        }
    }

    private static void refusedName(State state, String due, int i, int k, int j) {
        refused(state, due, "name(" + i + ", " + k + ", " + j + ")", x -> x.name(i, k, j) ? 1 : 0);
    }

    private static void questionsChangeNothing() {
        Checks.about("a call that answers NONE or false changes nothing");
        List<Call> questions = questions();
        for (State state : STATES) {
            for (Call question : questions) {
                IgnoreRules x = state.make();
                String first = question.answer(x);
                sameText(state.text + ": again " + question.text, question.answer(x), first);
                sameText(state.text + ": behind " + question.text, closing(x), closing(state.make()));
            }
        }
    }

    private static List<Call> questions() {
        List<Call> calls = new ArrayList<>();
        for (int i = 0; i < 4; i++) {
            int one = i;
            for (int what = 0; what < 3; what++) {
                int asked = what;
                calls.add(new Call("rule(" + i + ", " + what + ")", x -> x.rule(one, asked)));
            }
            for (int k = 0; k < 3; k++) {
                int name = k;
                calls.add(new Call("name(" + i + ", " + k + ", 0)", x -> x.name(one, name, 0) ? 1 : 0));
                calls.add(new Call("name(" + i + ", " + k + ", 1)", x -> x.name(one, name, 1) ? 1 : 0));
            }
            for (boolean directory : KINDS) {
                calls.add(new Call("fits(" + i + ", " + directory + ")", x -> x.fits(one, directory) ? 1 : 0));
            }
        }
        for (boolean directory : KINDS) {
            calls.add(new Call("out(" + directory + ")", x -> x.out(directory) ? 1 : 0));
            calls.add(new Call("by(" + directory + ")", x -> x.by(directory)));
            calls.add(new Call("depth(" + directory + ")", x -> x.depth(directory)));
            calls.add(new Call("many(" + directory + ")", x -> x.many(directory)));
        }
        return calls;
    }

    /** All that can be asked of an object, and what becomes of its tape: the same for objects in the same state. */
    private static String closing(IgnoreRules x) {
        StringBuilder told = new StringBuilder();
        List<Call> questions = questions();
        askAll(x, questions, told);
        told.append(" feed ").append(x.feed(1, 'q'));
        told.append(" read ").append(x.read());
        askAll(x, questions, told);
        for (String path : new String[] {"c/dq", "c/d", "q"}) {
            told.append(" wipe ").append(x.wipe());
            told.append(" path ").append(Checks.path(x, path));
            askAll(x, questions, told);
        }
        return told.toString();
    }

    private static void askAll(IgnoreRules x, List<Call> questions, StringBuilder told) {
        for (Call question : questions) {
            told.append(' ').append(question.answer(x));
        }
    }

    private static void pathNone() {
        Checks.about("path: NONE when it is none: there is no path then, and the tape stays");
        for (String none : new String[] {"", "/", "a/", "/a", "a//b", "\n", "a\nb", "a/".repeat(20) + "a",
            "a".repeat(121), "a\n".repeat(61), "x".repeat(1000)}) {
            IgnoreRules x = new State("", RULES, "a/b", none).make();
            Checks.same("path() of " + none, x.path(), -1);
            Checks.same("again", x.path(), -1);
            sameText("behind path() of " + none, closing(x), closing(new State("", RULES, "", none).make()));
        }
        IgnoreRules x = BOTH.make();
        Checks.same("path() of c/d", x.path(), 2);
        sameText("behind path() of c/d", closing(x), closing(new State("", RULES, "c/d", "").make()));
    }

    private static void objectsAreApart() {
        Checks.about("IgnoreRules(): No rules, no path; an empty tape");
        String due = closing(new IgnoreRules());
        for (State state : STATES) {
            IgnoreRules x = state.make();
            IgnoreRules y = new IgnoreRules();
            sameText("a new object beside one with " + state.text, closing(y), due);
            sameText("one with " + state.text + " beside a new object", closing(x), closing(state.make()));
        }
    }

    private static void all512Calls() {
        Checks.about("An object is used for at most 512 calls");
        IgnoreRules x = new IgnoreRules();
        for (int round = 0; round < 64; round++) {
            boolean turned = round % 2 == 1;
            Checks.same("feed", x.feed(turned ? 2 : 1, turned ? 0x6121 : 0x61), turned ? 2 : 1);
            Checks.same("read", x.read(), 1);
            Checks.same("feed", x.feed(3, 0x612F62), 3);
            Checks.same("path", x.path(), 2);
            Checks.same("rule", x.rule(0, 0), turned ? 1 : 0);
            Checks.same("by", x.by(true), 0);
            Checks.same("depth", x.depth(true), 2);
            Checks.same("out, call " + (round * 8 + 8), x.out(false), !turned);
        }
    }

    /** Rules and paths for which the most is tried, asked as often as an object may be. */
    private static void dearest512Calls() {
        Checks.about("An object is used for at most 512 calls");
        String names = "aaaaa/".repeat(19) + "aaaaaa";
        dearest("!" + "*a".repeat(499) + "b", "a".repeat(120), false, -1);
        dearest("!" + "**/*a*a/".repeat(124) + "b", names, false, -1);
        dearest(("**/*a*".repeat(2) + "b\n").repeat(60), names, false, -1);
        dearest("[" + "x".repeat(995) + "a]*", "a".repeat(120), true, 0);
        dearest("**/".repeat(330) + "*b", names, false, -1);
    }

    private static void dearest(String rules, String path, boolean due, int by) {
        IgnoreRules x = Checks.with(rules, path);
        int called = (rules.length() + 7) / 8 + (path.length() + 7) / 8 + 2;
        for (int call = called; call + 4 <= 512; call += 4) {
            Checks.same("out of " + rules, x.out(false), due);
            Checks.same("by of " + rules, x.by(true), by);
            Checks.same("many of " + rules, x.many(true), by + 1);
            Checks.same("depth of " + rules, x.depth(false), path.indexOf('/') < 0 ? 1 : 20);
        }
    }
}
