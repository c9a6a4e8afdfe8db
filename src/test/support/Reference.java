import java.util.ArrayList;
import java.util.Arrays;
import java.util.HashMap;
import java.util.List;
import java.util.Map;
import java.util.regex.Pattern;

/** A second way to answer, by texts and regular expressions, for comparison alone. */
public final class Reference {
    private record Rule(int bits, int line, String[] names) {
    }

    private static final Map<String, Pattern> COMPILED = new HashMap<>();

    private final StringBuilder tape = new StringBuilder();
    private List<Rule> rules = new ArrayList<>();
    private String[] path = null;

    public int feed(int n, long bytes) {
        if (n < 1 || n > 8) {
            throw new IllegalArgumentException();
        }
        if (tape.length() + n > 1000) {
            return -1;
        }
        for (int i = 0; i < n; i++) {
            tape.append((char) (bytes >>> (8 * i) & 255));
        }
        return tape.length();
    }

    public int wipe() {
        int had = tape.length();
        tape.setLength(0);
        return had;
    }

    public int read() {
        List<Rule> found = new ArrayList<>();
        String[] lines = tape.toString().split("\n", -1);
        for (int i = 0; i < lines.length; i++) {
            String line = withoutBlanks(lines[i]);
            if (!line.isEmpty() && !line.startsWith("#")) {
                found.add(parse(line, i));
            }
        }
        if (found.size() > 60) {
            return -1;
        }
        rules = found;
        tape.setLength(0);
        return found.size();
    }

    /** Goes forward, pairing each \ with what is behind it, and keeps up to the last that is no lone blank. */
    private static String withoutBlanks(String line) {
        int keep = 0;
        for (int i = 0; i < line.length(); i++) {
            if (line.charAt(i) == '\\' && i + 1 < line.length()) {
                i++;
                keep = i + 1;
            } else if (line.charAt(i) != ' ') {
                keep = i + 1;
            }
        }
        return line.substring(0, keep);
    }

    private static Rule parse(String line, int number) {
        int bits = 0;
        String rest = line;
        if (rest.startsWith("!")) {
            bits += 1;
            rest = rest.substring(1);
        }
        if (Pattern.compile("(^|.*[^\\\\])(\\\\\\\\)*/", Pattern.DOTALL).matcher(rest).matches()) {
            bits += 2;
            rest = rest.substring(0, rest.length() - 1);
        }
        if (rest.contains("/")) {
            bits += 4;
            rest = rest.startsWith("/") ? rest.substring(1) : rest;
        }
        String[] names = rest.split("/", -1);
        for (String name : names) {
            if (regex(name) == null) {
                bits |= 8;
            }
        }
        return new Rule(bits, number, names);
    }

    /** The regular expression of a name; null if the name is void. */
    private static String regex(String name) {
        if (name.isEmpty()) {
            return null;
        }
        StringBuilder built = new StringBuilder();
        int i = 0;
        while (i < name.length()) {
            char c = name.charAt(i++);
            if (c == '*') {
                built.append(".*");
            } else if (c == '?') {
                built.append('.');
            } else if (c == '[') {
                boolean[] in = new boolean[256];
                i = set(name, i, in);
                if (i < 0) {
                    return null;
                }
                built.append(classOf(in));
            } else if (c == '\\') {
                if (i == name.length()) {
                    return null;
                }
                built.append(quoted(name.charAt(i++)));
            } else {
                built.append(quoted(c));
            }
        }
        return built.toString();
    }

    private static String quoted(int c) {
        return String.format("\\x%02x", c);
    }

    private static String classOf(boolean[] in) {
        StringBuilder built = new StringBuilder();
        for (int c = 0; c < 256; c++) {
            if (in[c]) {
                built.append(quoted(c));
            }
        }
        return built.length() == 0 ? "(?!)" : "[" + built + "]";
    }

    /** Splits a set into bytes first, -1000 for a - that is not behind a \, then joins what is a range. */
    private static int set(String name, int start, boolean[] in) {
        int i = start;
        boolean turned = i < name.length() && (name.charAt(i) == '!' || name.charAt(i) == '^');
        if (turned) {
            i++;
        }
        List<Integer> parts = new ArrayList<>();
        while (true) {
            if (i >= name.length()) {
                return -1;
            }
            char c = name.charAt(i++);
            if (c == ']' && !parts.isEmpty()) {
                break;
            }
            if (c == '\\') {
                if (i >= name.length()) {
                    return -1;
                }
                parts.add((int) name.charAt(i++));
            } else {
                parts.add(c == '-' ? -1000 : (int) c);
            }
        }
        int p = 0;
        while (p < parts.size()) {
            int low = parts.get(p) < 0 ? '-' : parts.get(p);
            if (p + 2 < parts.size() && parts.get(p + 1) < 0) {
                int high = parts.get(p + 2) < 0 ? '-' : parts.get(p + 2);
                for (int c = low; c <= high; c++) {
                    in[c] = true;
                }
                p += 3;
            } else {
                in[low] = true;
                p++;
            }
        }
        for (int c = 0; turned && c < 256; c++) {
            in[c] = !in[c];
        }
        return i;
    }

    public int rule(int i, int what) {
        Rule rule = ruleAt(i);
        if (what < 0 || what > 2) {
            throw new IllegalArgumentException();
        }
        return what == 0 ? rule.bits : what == 1 ? rule.names.length : rule.line;
    }

    private Rule ruleAt(int i) {
        if (i < 0 || i >= rules.size()) {
            throw new IndexOutOfBoundsException();
        }
        return rules.get(i);
    }

    private void needPath() {
        if (path == null) {
            throw new IllegalStateException();
        }
    }

    public int path() {
        String text = tape.toString();
        String[] names = text.split("/", -1);
        path = null;
        if (text.length() > 120 || text.contains("\n") || names.length > 20 || Arrays.asList(names).contains("")) {
            return -1;
        }
        path = names;
        tape.setLength(0);
        return names.length;
    }

    public boolean fits(int i, boolean directory) {
        Rule rule = ruleAt(i);
        needPath();
        return fits(rule, path, directory);
    }

    private static boolean fits(Rule rule, String[] names, boolean directory) {
        if ((rule.bits & 8) != 0 || (rule.bits & 2) != 0 && !directory) {
            return false;
        }
        if ((rule.bits & 4) == 0) {
            return nameFits(rule.names[0], names[names.length - 1]);
        }
        return fitsFrom(rule.names, 0, names, 0, new Boolean[rule.names.length + 1][names.length + 1]);
    }

    private static boolean fitsFrom(String[] patterns, int k, String[] names, int j, Boolean[][] known) {
        if (known[k][j] == null) {
            boolean answer;
            if (k == patterns.length) {
                answer = j == names.length;
            } else if (patterns[k].equals("**")) {
                boolean last = k == patterns.length - 1;
                answer = last ? j < names.length : fitsFrom(patterns, k + 1, names, j, known)
                        || j < names.length && fitsFrom(patterns, k, names, j + 1, known);
            } else {
                answer = j < names.length && nameFits(patterns[k], names[j])
                        && fitsFrom(patterns, k + 1, names, j + 1, known);
            }
            known[k][j] = answer;
        }
        return known[k][j];
    }

    private static boolean nameFits(String pattern, String name) {
        Pattern whole = COMPILED.computeIfAbsent(pattern, Reference::compile);
        return whole.matcher(name).matches();
    }

    private static Pattern compile(String pattern) {
        String regex = regex(pattern);
        return Pattern.compile(regex == null ? "(?!)" : regex, Pattern.DOTALL);
    }

    private int last(int names, boolean directory) {
        String[] first = Arrays.copyOf(path, names);
        int found = -1;
        for (int i = 0; i < rules.size(); i++) {
            if (fits(rules.get(i), first, directory)) {
                found = i;
            }
        }
        return found;
    }

    private boolean leftOut(int names, boolean directory) {
        if (names > 1 && leftOut(names - 1, true)) {
            return true;
        }
        int last = last(names, directory);
        return last >= 0 && (rules.get(last).bits & 1) == 0;
    }

    public boolean out(boolean directory) {
        needPath();
        return leftOut(path.length, directory);
    }

    public int by(boolean directory) {
        int names = depth(directory);
        return last(names, names < path.length || directory);
    }

    public int depth(boolean directory) {
        needPath();
        int names = 1;
        while (names < path.length && !leftOut(names, true)) {
            names++;
        }
        return names;
    }

    public int many(boolean directory) {
        needPath();
        return (int) rules.stream().filter(rule -> fits(rule, path, directory)).count();
    }

    public boolean name(int i, int k, int j) {
        Rule rule = ruleAt(i);
        if (k < 0 || k >= rule.names.length) {
            throw new IndexOutOfBoundsException();
        }
        needPath();
        if (j < 0 || j >= path.length) {
            throw new IndexOutOfBoundsException();
        }
        return nameFits(rule.names[k], path[j]);
    }
}
