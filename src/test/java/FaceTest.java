import java.lang.reflect.Constructor;
import java.lang.reflect.Field;
import java.lang.reflect.Method;
import java.lang.reflect.Modifier;
import java.nio.file.Files;
import java.nio.file.Path;
import java.util.Arrays;
import java.util.TreeSet;
import java.util.regex.Matcher;
import java.util.regex.Pattern;

/** The public face of the document, and those rules of LANGUAGE.md that a glance can tell. */
public final class FaceTest {
    private static final String[] FACE = {
        "int feed(int, int, int, int, int)", "int end(int)", "int hand()", "boolean drop(int)",
        "int letter(int, int, int, int)", "boolean move(int, int)", "int undo()",
        "int cost(int, int)", "int learn()", "int learnt(int)", "int fade(int)",
        "int rule(int, int)", "int record(int, int)", "int both(int, int)", "int about(int, int)",
        "int heap(int)", "int heaped(int)", "int again()", "int differs(int)", "int count(int)"};
    private static final String[] BARRED = {
        "\\bthrow\\b", "\\btry\\b", "\\bcatch\\b", "\\bsynchronized\\b", "\\bassert\\b", "->", "::",
        "Exact\\b", "\\bpackage\\b", "\\bSystem\\.(?!arraycopy)", "\\bRandom\\b", "\\bThread\\b",
        "\\bprotected\\b", "\\bstatic\\s*\\{", "\\bnew\\s+\\w+\\([^)]*\\)\\s*\\{", "\\[\\]\\[\\]\\[\\]"};
    private static final String SOURCE = "src/main/java/LetterSieve.java";

    private FaceTest() {
    }

    public static void main(String[] args) throws Exception {
        methods();
        fieldsAndConstructors();
        nestedClasses();
        barredWords();
        Checks.finish("FaceTest");
    }

    private static void methods() {
        TreeSet<String> found = new TreeSet<>();
        TreeSet<String> names = new TreeSet<>();
        for (Method method : LetterSieve.class.getDeclaredMethods()) {
            if (!Modifier.isPrivate(method.getModifiers())) {
                String types = Arrays.toString(method.getParameterTypes());
                found.add(method.getReturnType() + " " + method.getName() + "("
                        + types.substring(1, types.length() - 1) + ")");
                names.add(method.getName());
            }
        }
        Checks.due("the face " + found, found.equals(new TreeSet<>(Arrays.asList(FACE))), true);
        for (Class<?> type : allClasses()) {
            for (Method method : type.getDeclaredMethods()) {
                boolean hidden = Modifier.isPrivate(method.getModifiers());
                Checks.due("private " + method, hidden && names.contains(method.getName()), false);
                Checks.due("parameters of " + method, method.getParameterCount() <= 7, true);
            }
        }
    }

    private static Class<?>[] allClasses() {
        Class<?>[] inside = LetterSieve.class.getDeclaredClasses();
        Class<?>[] all = Arrays.copyOf(inside, inside.length + 1);
        all[inside.length] = LetterSieve.class;
        return all;
    }

    private static void fieldsAndConstructors() {
        for (Field field : LetterSieve.class.getDeclaredFields()) {
            boolean open = !Modifier.isPrivate(field.getModifiers());
            Checks.due("open field " + field, open && !field.getName().equals("NONE"), false);
        }
        Constructor<?>[] made = LetterSieve.class.getDeclaredConstructors();
        Checks.due("constructors", made.length, 1);
        Checks.due("without parameters", made[0].getParameterCount(), 0);
        Checks.due("public", Modifier.isPublic(made[0].getModifiers()), true);
        Checks.due("final", Modifier.isFinal(LetterSieve.class.getModifiers()), true);
    }

    private static void nestedClasses() {
        Class<?>[] all = allClasses();
        Checks.due("classes " + all.length, all.length <= 12, true);
        for (Class<?> type : all) {
            boolean inside = type != LetterSieve.class;
            Checks.due("static " + type, !inside || Modifier.isStatic(type.getModifiers()), true);
            int own = 0;
            for (Field field : type.getDeclaredFields()) {
                boolean ofClass = Modifier.isStatic(field.getModifiers());
                own += ofClass ? 0 : 1;
                Checks.due("final " + field,
                        !ofClass || Modifier.isFinal(field.getModifiers()), true);
            }
            Checks.due("fields of " + type, own <= 20, true);
        }
    }

    private static void barredWords() throws Exception {
        String code = Files.readString(Path.of(SOURCE))
                .replaceAll("(?s)/\\*.*?\\*/", "")
                .replaceAll("//[^\\n]*", "");
        for (String barred : BARRED) {
            Matcher matcher = Pattern.compile(barred).matcher(code);
            Checks.due("barred: " + barred, matcher.find(), false);
        }
        Matcher imports = Pattern.compile("import ([\\w.]+);").matcher(code);
        while (imports.find()) {
            Checks.due("import " + imports.group(1),
                    imports.group(1).matches("java\\.util\\.(ArrayList|List|Arrays)"), true);
        }
    }
}
