import java.io.IOException;
import java.lang.reflect.Field;
import java.lang.reflect.Method;
import java.lang.reflect.Modifier;
import java.nio.charset.StandardCharsets;
import java.nio.file.Files;
import java.nio.file.Path;
import java.util.Set;
import java.util.TreeSet;
import java.util.regex.Matcher;
import java.util.regex.Pattern;

/** The calls that README.md shows are made as they stand there: each must answer what is told behind it. */
public final class ReadmeTest {
    private static final Due DUE = new Due();
    private static final String NEW_ROOM = "PermitRoom room = new PermitRoom();";
    private static final String FEEDING = "room.feed(text.charAt(i), 1);";
    private static final String READING = "return room.rule();";
    private static final Pattern CALL = Pattern.compile("room\\.(\\w+)\\((.*)\\); *// (-?\\d+)(:.*)?");
    private static final Pattern TELL = Pattern.compile("tell\\(room, \"(.*)\"\\); *// (-?\\d+)(:.*)?");

    private final Set<String> shown = new TreeSet<>();
    private PermitRoom room = new PermitRoom();

    public static void main(String[] args) throws ReflectiveOperationException, IOException {
        String text = Files.readString(Path.of("README.md"), StandardCharsets.UTF_8);
        ReadmeTest test = new ReadmeTest();
        for (String line : text.split("\n")) {
            test.follow(line.strip());
        }
        test.showsAll(text);
        DUE.end();
    }

    private void follow(String line) throws ReflectiveOperationException {
        Matcher call = CALL.matcher(line);
        Matcher tell = TELL.matcher(line);
        if (line.equals(NEW_ROOM)) {
            room = new PermitRoom();
        } else if (call.matches()) {
            shown.add(call.group(1));
            DUE.is(line, answer(call.group(1), call.group(2)), Integer.parseInt(call.group(3)));
        } else if (tell.matches()) {
            DUE.is(line, Due.rule(room, tell.group(1)), Integer.parseInt(tell.group(2)));
        } else if (line.equals(FEEDING)) {
            shown.add("feed");
        } else if (line.equals(READING)) {
            shown.add("rule");
        } else if (line.startsWith("tell(") || line.startsWith("room.")) {
            DUE.is("a call without an answer: " + line, 1, 0);
        }
    }

    private int answer(String name, String words) throws ReflectiveOperationException {
        String[] word = words.isEmpty() ? new String[0] : words.split(", ");
        for (Method method : PermitRoom.class.getMethods()) {
            if (method.getName().equals(name) && method.getParameterCount() == word.length) {
                Object[] values = new Object[word.length];
                for (int i = 0; i < word.length; i++) {
                    values[i] = method.getParameterTypes()[i] == boolean.class ? (Object) word[i].equals("true")
                        : (Object) number(word[i]);
                }
                return (Integer) method.invoke(room, values);
            }
        }
        throw new NoSuchMethodException(name);
    }

    private static int number(String word) {
        return word.startsWith("0b") ? Integer.parseInt(word.substring(2), 2) : Integer.parseInt(word);
    }

    private void showsAll(String text) {
        for (Method method : PermitRoom.class.getDeclaredMethods()) {
            boolean isDue = Modifier.isPublic(method.getModifiers());
            DUE.is("a call is shown: " + method.getName(), !isDue || shown.contains(method.getName()) ? 1 : 0, 1);
        }
        for (Field field : PermitRoom.class.getFields()) {
            String begin = "| `" + field.getName() + "` | -";
            DUE.is("a constant is told: " + begin, text.contains(begin) ? 1 : 0, 1);
        }
    }
}
