import java.lang.reflect.Field;
import java.lang.reflect.Method;
import java.lang.reflect.Modifier;
import java.nio.file.Files;
import java.nio.file.Path;
import java.util.Set;
import java.util.TreeSet;

/** The document's face and what ../shared/LANGUAGE.md rules out, as far as a test can see it. */
public final class FaceTest {
    private static final String FACE = "lot(int, int) gate(int) run(int) bin() batch(int) tick(int) zero() correct(int) "
        + "set(int, int) account(int) book(int, int) accountOf(int, int) massAt(int, int) lotOf(int, int) "
        + "binOf(int, int) scale(int) count(int) batchIn() batchOut() error() undo() type(int) clearText() fault(int) "
        + "play()";
    private static final String[] RULED_OUT = {"throw", "throws", "try", "catch", "finally", "synchronized", "assert", "import",
        "package", "protected", "native", "volatile", "float", "double", "Object", "System.out", "System.exit", "Exact(",
        "->", "::", "@"};
    private static final int[] EXTREMES = {Integer.MIN_VALUE, Integer.MIN_VALUE + 1, -1000001, -1, 0, 1, 12, 60, 1000000,
        Integer.MAX_VALUE - 1, Integer.MAX_VALUE};

    private static int passed;
    private static int failed;

    public static void main(String[] args) throws Exception {
        checkFace();
        checkNames();
        checkSource();
        checkExtremes();
        System.out.println("FaceTest: " + passed + " passed, " + failed + " failed");
        if (failed != 0) {
            System.exit(1);
        }
    }

    private static void check(String what, boolean holds) {
        if (holds) {
            passed++;
        } else {
            failed++;
            System.out.println("does not hold: " + what);
        }
    }

    private static void checkFace() {
        Class<?> face = BeltSums.class;
        Set<String> methods = new TreeSet<>();
        for (Method method : face.getDeclaredMethods()) {
            if (Modifier.isPublic(method.getModifiers())) {
                String text = method.toString();
                methods.add(text.substring(text.indexOf("BeltSums.") + 9).replace(",", ", "));
                check(method + " answers an int", method.getReturnType() == int.class);
            } else {
                check(method + " is private", Modifier.isPrivate(method.getModifiers()));
            }
        }
        check("public methods: " + methods, methods.equals(new TreeSet<>(Set.of(FACE.split("(?<=\\)) ")))));
        check("one constructor", face.getDeclaredConstructors().length == 1 && face.getConstructors().length == 1);
        check("a final class", Modifier.isFinal(face.getModifiers()));
        int constants = 0;
        for (Field field : face.getDeclaredFields()) {
            int modifiers = field.getModifiers();
            if (Modifier.isPublic(modifiers)) {
                constants++;
            } else {
                check(field + " is private", Modifier.isPrivate(modifiers));
            }
            check(field + " is final", Modifier.isFinal(modifiers));
        }
        check("four public constants", constants == 4 && face.getFields().length == 4);
        check("INVALID_ARGUMENT", BeltSums.INVALID_ARGUMENT == -1000001);
        check("NOT_POSSIBLE", BeltSums.NOT_POSSIBLE == -1000002);
        check("LIMIT_REACHED", BeltSums.LIMIT_REACHED == -1000003);
        check("NOT_FOUND", BeltSums.NOT_FOUND == -1000004);
    }

    private static void checkNames() {
        Set<String> names = new TreeSet<>();
        for (Method method : BeltSums.class.getMethods()) {
            if (method.getDeclaringClass() == BeltSums.class) {
                names.add(method.getName());
            }
        }
        check("at most twelve classes", BeltSums.class.getDeclaredClasses().length < 12);
        for (Class<?> inner : BeltSums.class.getDeclaredClasses()) {
            check(inner + " is static", Modifier.isStatic(inner.getModifiers()));
            check(inner + " is not public", !Modifier.isPublic(inner.getModifiers()));
            check(inner + " has some twenty fields", inner.getDeclaredFields().length <= 20);
            for (Method method : inner.getDeclaredMethods()) {
                check(method + " has no name of the face", !names.contains(method.getName()));
                check(method + " takes seven at most", method.getParameterCount() <= 7);
            }
        }
    }

    private static void checkSource() throws Exception {
        String source = Files.readString(Path.of("src/main/java/BeltSums.java"));
        String code = source.replaceAll("(?s)/\\*.*?\\*/", "").replaceAll("//[^\n]*", "");
        for (String word : RULED_OUT) {
            boolean isName = Character.isLetter(word.charAt(0));
            String pattern = (isName ? "\\b" : "") + "\\Q" + word + "\\E" + (isName && !word.endsWith("(") ? "\\b" : "");
            if (word.equals("Exact(")) {
                pattern = "Exact\\(";
            }
            check("no " + word, !java.util.regex.Pattern.compile(pattern).matcher(code).find());
        }
        check("signs from 1 to 127", source.chars().allMatch(sign -> sign > 0 && sign < 128));
    }

    /** No call throws, whatever it is given, in an object that is new or that has been used. */
    private static void checkExtremes() throws Exception {
        for (int first : EXTREMES) {
            BeltSums x = new BeltSums();
            for (int second : EXTREMES) {
                for (Method method : BeltSums.class.getMethods()) {
                    if (method.getDeclaringClass() == BeltSums.class) {
                        callOnce(x, method, first, second);
                    }
                }
            }
        }
    }

    private static void callOnce(BeltSums x, Method method, int first, int second) {
        Object[] arguments = method.getParameterCount() == 2 ? new Object[] {first, second}
            : method.getParameterCount() == 1 ? new Object[] {first} : new Object[0];
        boolean answers = true;
        try {
            method.invoke(x, arguments);
        } catch (ReflectiveOperationException e) {
            answers = false;
        }
        check(method.getName() + " of " + first + " and " + second + " answers", answers);
    }
}
