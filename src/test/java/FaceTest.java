import java.lang.reflect.Constructor;
import java.lang.reflect.Field;
import java.lang.reflect.Method;
import java.lang.reflect.Modifier;
import java.nio.charset.StandardCharsets;
import java.nio.file.Files;
import java.nio.file.Path;
import java.util.ArrayList;
import java.util.Arrays;
import java.util.HashSet;
import java.util.List;
import java.util.Set;
import java.util.TreeSet;
import java.util.regex.Matcher;
import java.util.regex.Pattern;

/** The public face as the document has it, and the rules of LANGUAGE.md that a look at the text can hold. */
public final class FaceTest {
    private static final Path SOURCE = Path.of("src/main/java/TongueRights.java");
    private static final Path DOCUMENT = Path.of("../shared/DOC.md");

    private FaceTest() {
    }

    public static void main(String[] args) throws Exception {
        face();
        classesInside();
        words();
        lengths();
        Check.end("FaceTest");
    }

    private static void face() throws Exception {
        Set<String> due = new TreeSet<>();
        Pattern call = Pattern.compile("^    public (int|long) (\\w+)\\((.*)\\);$", Pattern.MULTILINE);
        Matcher m = call.matcher(Files.readString(DOCUMENT, StandardCharsets.UTF_8));
        while (m.find()) {
            due.add(m.group(1) + " " + m.group(2) + "(" + m.group(3).replaceAll(" \\w+(,|$)", "$1") + ")");
        }
        Check.is("calls in the document", due.size(), 46);
        Set<String> got = new TreeSet<>();
        for (Method method : TongueRights.class.getDeclaredMethods()) {
            if (Modifier.isPublic(method.getModifiers())) {
                List<String> types = new ArrayList<>();
                for (Class<?> type : method.getParameterTypes()) {
                    types.add(type.getName());
                }
                got.add(method.getReturnType().getName() + " " + method.getName() + "(" + String.join(", ", types) + ")");
            } else {
                Check.holds(method + " is private", Modifier.isPrivate(method.getModifiers()));
            }
        }
        Check.holds("the calls are " + due + ", not " + got, due.equals(got));
        Constructor<?>[] constructors = TongueRights.class.getDeclaredConstructors();
        Check.is("one constructor", constructors.length, 1);
        Check.holds("it is public", Modifier.isPublic(constructors[0].getModifiers()));
        Check.is("without parameters", constructors[0].getParameterCount(), 0);
        Check.holds("the class is final", Modifier.isFinal(TongueRights.class.getModifiers()));
        fields();
    }

    private static void fields() {
        Set<String> constants = new HashSet<>(Arrays.asList("BAD", "NOT", "FULL", "VOID"));
        int own = 0;
        for (Field field : TongueRights.class.getDeclaredFields()) {
            if (Modifier.isPublic(field.getModifiers())) {
                Check.holds(field + " is in the document", constants.remove(field.getName()));
                Check.holds(field + " is an int", field.getType() == int.class);
            } else {
                Check.holds(field + " is private", Modifier.isPrivate(field.getModifiers()));
            }
            boolean isStatic = Modifier.isStatic(field.getModifiers());
            Check.holds(field + " is final if it is static", !isStatic || Modifier.isFinal(field.getModifiers()));
            own += isStatic ? 0 : 1;
        }
        Check.holds("every constant is there", constants.isEmpty());
        Check.holds("some twenty fields", own <= 21);
        Check.is("BAD", TongueRights.BAD, -1);
        Check.is("NOT", TongueRights.NOT, -2);
        Check.is("FULL", TongueRights.FULL, -3);
        Check.is("VOID", TongueRights.VOID, -2000000000);
    }

    private static void classesInside() {
        Set<String> open = new HashSet<>();
        for (Method method : TongueRights.class.getMethods()) {
            open.add(method.getName());
        }
        Class<?>[] inside = TongueRights.class.getDeclaredClasses();
        Check.holds("some twelve classes", inside.length <= 12);
        for (Class<?> c : inside) {
            Check.holds(c + " is static", Modifier.isStatic(c.getModifiers()));
            Check.holds(c + " is not public", !Modifier.isPublic(c.getModifiers()));
            int own = 0;
            for (Field field : c.getDeclaredFields()) {
                own += Modifier.isStatic(field.getModifiers()) ? 0 : 1;
            }
            Check.holds(c + " has some twenty fields", own <= 21);
            for (Method method : c.getDeclaredMethods()) {
                Check.holds(method + " has a name of its own", !open.contains(method.getName()));
                Check.holds(method + " takes at most seven", method.getParameterCount() <= 7);
            }
        }
        for (Method method : TongueRights.class.getDeclaredMethods()) {
            boolean isPrivate = Modifier.isPrivate(method.getModifiers());
            Check.holds(method + " has a name of its own", !isPrivate || !open.contains(method.getName()));
        }
    }

    private static String code() throws Exception {
        String text = Files.readString(SOURCE, StandardCharsets.UTF_8);
        return text.replaceAll("(?s)/\\*.*?\\*/", "").replaceAll("//[^\n]*", "");
    }

    private static void words() throws Exception {
        String code = code();
        String[] none = {"\\bthrows?\\b", "\\btry\\b", "\\bcatch\\b", "\\bsynchronized\\b", "\\bassert\\b", "->", "::",
            "\\bequals\\b", "\\bhashCode\\b", "\\btoString\\b", "\\bSystem\\.(?!arraycopy)", "\\bThread\\b", "\\bRandom\\b",
            "\\bpackage\\b", "\\bdouble\\b", "\\bfloat\\b", "Exact\\(", "\\bprotected\\b", "\\bvar\\b"};
        for (String word : none) {
            Check.holds("no " + word, !Pattern.compile(word).matcher(code).find());
        }
        Matcher imports = Pattern.compile("import ([^;]+);").matcher(code);
        while (imports.find()) {
            Check.holds(imports.group(1) + " is in the list", imports.group(1).equals("java.util.Arrays"));
        }
    }

    private static void lengths() throws Exception {
        String[] lines = code().split("\n");
        Pattern head = Pattern.compile("^( {4}| {8})(?!return|if|for|while|switch|else)\\w[^;=]*\\) \\{$");
        for (int i = 0; i < lines.length; i++) {
            Matcher m = head.matcher(lines[i]);
            if (m.matches()) {
                int end = i;
                while (end < lines.length && !lines[end].equals(m.group(1) + "}")) {
                    end++;
                }
                Check.holds(lines[i].trim() + " has some sixty lines", end - i <= 60);
            }
        }
    }
}
