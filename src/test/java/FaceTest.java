import java.lang.reflect.Constructor;
import java.lang.reflect.Field;
import java.lang.reflect.Method;
import java.lang.reflect.Modifier;
import java.nio.charset.StandardCharsets;
import java.nio.file.Files;
import java.nio.file.Path;
import java.util.Set;
import java.util.TreeSet;
import java.util.regex.Matcher;
import java.util.regex.Pattern;

/** The public face, and those rules of LANGUAGE.md that can be seen without reading the code as a whole. */
public final class FaceTest {
    private static final String[] METHODS = {
        "pipe(int,int,int)", "of(int,int)", "source(int,int,boolean)", "turn(int,boolean)", "safe(int)",
        "barriers(int,int)", "apart(int,int)", "go(int)", "feed(long,int)", "rule()", "strike(int)",
        "ruleOf(int,int)", "ask(int,int,int)", "hold(int,int)", "isolate(int)", "test(int,int)", "start(int)",
        "hang(int)", "back(int)", "may(int,int)", "quarrels(int)", "permitOf(int,int)", "enter(int,int)",
        "leave(int)", "shift(int,boolean)", "siren()", "least(int)", "leastSet(int)", "risk(int)",
        "right(int,int,int)", "order()", "ordered(int)", "row(int,int)", "alter(int,int,int)", "drop()", "check()",
        "many(int)",
    };
    private static final String[] CONSTANTS = {
        "NUMBER=-1", "FULL=-2", "NONE=-3", "STATE=-4", "LOCKED=-5", "BAR=-10", "FAULT=-100",
    };
    private static final String[] FORBIDDEN = {
        "\\bthrow\\b", "\\btry\\b", "\\bcatch\\b", "\\bsynchronized\\b", "\\bassert\\b", "\\bimport\\b", "\\bpackage\\b",
        "->", "::", "\\bhashCode\\b", "\\btoString\\b", "Exact\\(", "\\bSystem\\.(?!arraycopy)", "\\bdouble\\b",
        "\\bObject\\b", "\\bvar\\b", "\\bprotected\\b",
    };

    private static int wrong = 0;

    public static void main(String[] args) throws Exception {
        face();
        nestedClasses();
        source(args.length > 0 ? args[0] : "src/main/java/PermitRoom.java");
        System.out.println(wrong == 0 ? "the face is as due" : wrong + " things are not as due");
        if (wrong != 0) {
            System.exit(1);
        }
    }

    private static void must(boolean holds, String what) {
        if (!holds) {
            wrong++;
            System.out.println("not so: " + what);
        }
    }

    private static void face() throws Exception {
        Set<String> methods = new TreeSet<>();
        for (Method m : PermitRoom.class.getDeclaredMethods()) {
            if (Modifier.isPrivate(m.getModifiers())) {
                continue;
            }
            StringBuilder text = new StringBuilder(m.getName()).append('(');
            for (Class<?> type : m.getParameterTypes()) {
                text.append(text.charAt(text.length() - 1) == '(' ? "" : ",").append(type.getName());
            }
            methods.add(text.append(')').toString());
            must(Modifier.isPublic(m.getModifiers()) && !Modifier.isStatic(m.getModifiers()), m + " is public");
            must(m.getReturnType() == int.class, m + " answers an int");
        }
        must(methods.equals(new TreeSet<>(Set.of(METHODS))), "the methods are those of the document: " + methods);
        Set<String> constants = new TreeSet<>();
        for (Field f : PermitRoom.class.getDeclaredFields()) {
            if (!Modifier.isPrivate(f.getModifiers())) {
                constants.add(f.getName() + "=" + f.get(null));
            }
        }
        must(constants.equals(new TreeSet<>(Set.of(CONSTANTS))), "the constants are those of the document");
        Constructor<?>[] made = PermitRoom.class.getDeclaredConstructors();
        must(made.length == 1 && Modifier.isPublic(made[0].getModifiers()), "one public constructor");
        must(made[0].getParameterCount() == 0, "the constructor takes nothing");
        must(Modifier.isFinal(PermitRoom.class.getModifiers()), "the class is final");
    }

    private static void nestedClasses() {
        Class<?>[] inside = PermitRoom.class.getDeclaredClasses();
        must(inside.length <= 11, "at most some twelve classes");
        Set<String> publicNames = new TreeSet<>();
        for (String method : METHODS) {
            publicNames.add(method.substring(0, method.indexOf('(')));
        }
        for (Class<?> c : inside) {
            must(Modifier.isStatic(c.getModifiers()), c + " is static");
            must(!Modifier.isPublic(c.getModifiers()), c + " is not public");
            int fields = 0;
            for (Field f : c.getDeclaredFields()) {
                boolean isStatic = Modifier.isStatic(f.getModifiers());
                must(!isStatic || Modifier.isFinal(f.getModifiers()), f + " is final");
                fields += isStatic ? 0 : 1;
            }
            must(fields <= 20, c + " has at most twenty fields");
            for (Method m : c.getDeclaredMethods()) {
                must(m.getParameterCount() <= 7, m + " takes at most seven");
                must(!publicNames.contains(m.getName()), m + " bears no name of the face");
            }
        }
        for (Method m : PermitRoom.class.getDeclaredMethods()) {
            boolean isPrivate = Modifier.isPrivate(m.getModifiers());
            must(!isPrivate || !publicNames.contains(m.getName()), m + " bears no name of the face");
        }
    }

    private static void source(String path) throws Exception {
        String text = Files.readString(Path.of(path), StandardCharsets.UTF_8);
        for (char sign : text.toCharArray()) {
            must(sign < 128, "only plain signs");
        }
        String code = text.replaceAll("(?s)/\\*.*?\\*/", " ").replaceAll("//[^\n]*", " ").replaceAll("\"[^\"]*\"", "\"\"");
        for (String word : FORBIDDEN) {
            Matcher found = Pattern.compile(word).matcher(code);
            must(!found.find(), "no " + word);
        }
    }
}
