/** What the tests share: a count of the wrong answers, and texts put on a tape in bytes. */
public final class Checks {
    private static int wrong = 0;
    private static String sentence = "";

    private Checks() {
    }

    /** The sentence of the document that the checks from here on are about. */
    public static void about(String words) {
        sentence = "\"" + words + "\": ";
    }

    public static void same(String what, long got, long due) {
        if (got != due) {
            wrong++;
            System.out.println(sentence + what + " answered " + got + ", due is " + due);
        }
    }

    public static void same(String what, boolean got, boolean due) {
        same(what, got ? 1L : 0L, due ? 1L : 0L);
    }

    public static void fails(String what, Class<? extends RuntimeException> due, Runnable call) {
        String got = "nothing";
        try {
            call.run();
        } catch (RuntimeException e) {
            got = e.getClass().getSimpleName();
        }
        if (!got.equals(due.getSimpleName())) {
            wrong++;
            System.out.println(sentence + what + " threw " + got + ", due is " + due.getSimpleName());
        }
    }

    /** Feeds a text of characters 0 to 255, eight at a time; answers what the last feed did. */
    public static int feed(IgnoreRules x, String text) {
        int answer = 0;
        for (int from = 0; from < text.length(); from += 8) {
            int n = Math.min(8, text.length() - from);
            long bytes = 0;
            for (int i = 0; i < n; i++) {
                bytes |= (long) text.charAt(from + i) << (8 * i);
            }
            answer = x.feed(n, bytes);
        }
        return answer;
    }

    public static int rules(IgnoreRules x, String text) {
        feed(x, text);
        return x.read();
    }

    public static int path(IgnoreRules x, String text) {
        feed(x, text);
        return x.path();
    }

    public static IgnoreRules with(String rules, String path) {
        IgnoreRules x = new IgnoreRules();
        rules(x, rules);
        path(x, path);
        return x;
    }

    public static void end() {
        System.out.println(wrong == 0 ? "all answers are as due" : wrong + " answers are not as due");
        if (wrong != 0) {
            System.exit(1);
        }
    }
}
