import java.io.IOException;
import java.nio.file.Files;
import java.nio.file.Path;
import java.util.ArrayList;
import java.util.List;

/** The example of README.md: its calls are made here, and each answer is looked up behind the call's //. */
public final class ReadmeTest {
    private static List<String> example;
    private static int line = 0;

    public static void main(String[] args) throws IOException {
        example = example(Files.readAllLines(Path.of("README.md")));
        Checks.same("the example's first line", next().equals("IgnoreRules x = new IgnoreRules();"), true);
        IgnoreRules x = new IgnoreRules();
        told("x.feed(3, 0x6F2E2AL);", x.feed(3, 0x6F2E2AL));
        told("x.read();", x.read());
        told("x.feed(5, 0x6F2E622F61L);", x.feed(5, 0x6F2E622F61L));
        told("x.path();", x.path());
        told("x.out(false);", x.out(false));
        told("x.by(false);", x.by(false));
        told("x.depth(false);", x.depth(false));
        Checks.same("the example's lines", line, example.size());
        Checks.end();
    }

    private static List<String> example(List<String> readme) {
        List<String> found = new ArrayList<>();
        boolean within = false;
        for (String one : readme) {
            if (one.startsWith("```")) {
                within = one.equals("```java");
            } else if (within) {
                found.add(one);
            }
        }
        return found;
    }

    private static String next() {
        line++;
        return line <= example.size() ? example.get(line - 1) : "";
    }

    private static void told(String call, Object answer) {
        String due = next();
        boolean same = due.startsWith(call + " ") && due.contains("// " + answer + ": ");
        Checks.same(call + " answered " + answer + "; that README.md says so: " + due, same, true);
    }
}
