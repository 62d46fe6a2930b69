import java.io.IOException;
import java.nio.charset.StandardCharsets;
import java.nio.file.Files;
import java.nio.file.Path;
import java.util.ArrayList;
import java.util.HashMap;
import java.util.List;
import java.util.Map;
import java.util.regex.Matcher;
import java.util.regex.Pattern;

/** Rules of LANGUAGE.md that are seen by reading the class's lines: how long, how deep, what is made where. */
public final class LanguageTest {
    private static final int LONGEST_METHOD = 60;
    private static final int DEEPEST_CALL = 8;
    private static final Pattern HEAD =
        Pattern.compile("( {4}| {8})(?:(?:public|private|static) )*(?:int|boolean|void) (\\w+)\\(.*\\) \\{");
    private static final Pattern MADE_WITH_OBJECT =
        Pattern.compile(" +(?:private )?(?:static )?final \\w+(?:\\[\\])? \\w+ = new .*;");
    private static final Pattern COUNTED =
        Pattern.compile(" +for \\(int (\\w+) = [^;]+; \\1 (<|<=|>=) [^;]+; \\1(\\+\\+|--)\\) \\{");
    private static final Pattern BOUNDED = Pattern.compile(" +while \\(at < length && .*\\) \\{");

    /** Bodies by names: methods of several classes that have one name count as one, so depths are rather too great. */
    private final Map<String, String> bodies = new HashMap<>();
    private final Map<String, Integer> depths = new HashMap<>();
    private final List<String> faults = new ArrayList<>();

    public static void main(String[] args) throws IOException {
        String path = args.length > 0 ? args[0] : "src/main/java/PermitRoom.java";
        LanguageTest test = new LanguageTest();
        test.read(Files.readAllLines(Path.of(path), StandardCharsets.UTF_8));
        test.depthsOfAll();
        for (String fault : test.faults) {
            System.out.println(fault);
        }
        System.out.println(test.bodies.size() + " names of methods, faults: " + test.faults.size());
        if (!test.faults.isEmpty() || test.bodies.size() < 37) {
            System.exit(1);
        }
    }

    private void read(List<String> lines) {
        for (int i = 0; i < lines.size(); i++) {
            String line = lines.get(i);
            Matcher head = HEAD.matcher(line);
            if (head.matches()) {
                keepBody(lines, i, head.group(1), head.group(2));
            }
            boolean isComment = line.strip().startsWith("*") || line.strip().startsWith("/");
            if (!isComment && line.contains("new ") && !MADE_WITH_OBJECT.matcher(line).matches()) {
                faults.add("rule 12: made elsewhere than with the object, line " + (i + 1));
            }
            boolean isLoop = line.contains("while (") || line.contains("for (");
            if (isLoop && !COUNTED.matcher(line).matches() && !BOUNDED.matcher(line).matches()) {
                faults.add("rule 9: a loop whose end isn't seen, line " + (i + 1));
            }
        }
    }

    private void keepBody(List<String> lines, int first, String margin, String name) {
        StringBuilder body = new StringBuilder();
        int last = first + 1;
        while (last < lines.size() && !lines.get(last).equals(margin + "}")) {
            body.append(lines.get(last)).append('\n');
            last++;
        }
        if (last - first + 1 > LONGEST_METHOD) {
            faults.add("rule 11: " + name + " has " + (last - first + 1) + " lines");
        }
        bodies.merge(name, body.toString(), String::concat);
    }

    private void depthsOfAll() {
        for (String name : bodies.keySet()) {
            int depth = depthOf(name, 0);
            if (depth > DEEPEST_CALL) {
                faults.add("rule 11: the calls of " + name + " go " + depth + " deep");
            }
        }
    }

    /** A method that calls itself counts once; methods that call one another would never end and are a fault. */
    private int depthOf(String name, int above) {
        if (depths.containsKey(name) || above > 40) {
            return depths.getOrDefault(name, above);
        }
        int deepest = 0;
        Matcher call = Pattern.compile("\\b(\\w+)\\(").matcher(bodies.get(name));
        while (call.find()) {
            String called = call.group(1);
            if (bodies.containsKey(called) && !called.equals(name)) {
                deepest = Math.max(deepest, depthOf(called, above + 1));
            }
        }
        depths.put(name, deepest + 1);
        return deepest + 1;
    }
}
