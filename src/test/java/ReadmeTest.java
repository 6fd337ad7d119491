import java.io.ByteArrayOutputStream;
import java.io.IOException;
import java.io.PrintStream;
import java.lang.reflect.Method;
import java.lang.reflect.Modifier;
import java.net.URL;
import java.net.URLClassLoader;
import java.nio.file.Files;
import java.nio.file.Path;
import java.util.Arrays;
import java.util.Set;
import java.util.TreeSet;
import java.util.regex.Matcher;
import java.util.regex.Pattern;
import java.util.spi.ToolProvider;

/** What README.md tells of the use of the class is so: its program, its calls, its commands. */
public final class ReadmeTest {
    private static final String COMMANDS = "bcglmstxz";

    private static int passed;
    private static int failed;

    public static void main(String[] args) throws Exception {
        String readme = Files.readString(Path.of("README.md")).replace("\r\n", "\n");
        checkProgram(blockOf(readme, "java"), blockOf(readme, "text"));
        checkCalls(readme);
        checkCommands(readme);
        System.out.println("ReadmeTest: " + passed + " passed, " + failed + " failed");
        if (failed != 0) {
            System.exit(1);
        }
    }

    private static void due(String what, Object got, Object want) {
        if (got.equals(want)) {
            passed++;
        } else {
            failed++;
            System.out.println("README.md, " + what + ": it is " + got + ", told is " + want);
        }
    }

    private static String blockOf(String readme, String language) {
        Matcher block = Pattern.compile("(?s)```" + language + "\n(.*?)```\n").matcher(readme);
        boolean found = block.find();
        due("a block of " + language, found, true);
        return found ? block.group(1) : "";
    }

    private static void checkProgram(String program, String told) throws Exception {
        Path room = Files.createTempDirectory("readme");
        Path source = Files.writeString(room.resolve("Feed.java"), program);
        ToolProvider compiler = ToolProvider.findFirst("javac").orElseThrow();
        String path = System.getProperty("java.class.path");
        int answer = compiler.run(System.out, System.out, "-cp", path, "-d", room.toString(), source.toString());
        due("compiling Feed.java", answer, 0);
        if (answer == 0) {
            due("what Feed prints", printed(room), told);
        }
        remove(room);
    }

    private static String printed(Path room) throws Exception {
        ByteArrayOutputStream bytes = new ByteArrayOutputStream();
        PrintStream before = System.out;
        try (URLClassLoader loader = new URLClassLoader(new URL[] {room.toUri().toURL()})) {
            System.setOut(new PrintStream(bytes, true));
            loader.loadClass("Feed").getMethod("main", String[].class).invoke(null, (Object) new String[0]);
        } finally {
            System.setOut(before);
        }
        return bytes.toString().replace("\r\n", "\n");
    }

    private static void remove(Path room) throws IOException {
        try (var files = Files.list(room)) {
            for (Path file : files.toList()) {
                Files.delete(file);
            }
        }
        Files.delete(room);
    }

    /** Each call stands in the table with as many arguments as it takes. */
    private static void checkCalls(String readme) {
        Set<String> told = new TreeSet<>();
        int start = readme.indexOf("### The calls");
        int end = readme.indexOf("Mass is in grams", start);
        String table = start >= 0 && end >= 0 ? readme.substring(start, end) : "";
        Matcher call = Pattern.compile("`(\\w+)\\(([^)]*)\\)`").matcher(table);
        while (call.find()) {
            told.add(call.group(1) + " of " + numbers(call.group(2)).length);
        }
        Set<String> calls = new TreeSet<>();
        for (Method method : BeltSums.class.getDeclaredMethods()) {
            if (Modifier.isPublic(method.getModifiers())) {
                calls.add(method.getName() + " of " + method.getParameterCount());
            }
        }
        due("the table of calls", calls, told);
    }

    private static String[] numbers(String arguments) {
        return arguments.isEmpty() ? new String[0] : arguments.split(", ");
    }

    /** A command, played, and the call beside it lead from the same state to the same one. */
    private static void checkCommands(String readme) throws ReflectiveOperationException {
        Matcher row = Pattern.compile("`([a-z][0-9,]*;)` \\| `(\\w+)\\(([^)]*)\\)`").matcher(readme);
        Set<Character> letters = new TreeSet<>();
        while (row.find()) {
            String command = row.group(1);
            letters.add(command.charAt(0));
            BeltSums played = prepared(command);
            due("the command " + command + " played", played.play(), 1);
            BeltSums called = prepared(command);
            String[] numbers = numbers(row.group(3));
            int answer = call(called, row.group(2), numbers);
            due("an error of the call beside " + command, answer < BeltSums.NOT_FOUND || answer > BeltSums.INVALID_ARGUMENT, true);
            due("all behind the command " + command, Arrays.toString(Edges.all(played)), Arrays.toString(Edges.all(called)));
        }
        StringBuilder all = new StringBuilder();
        for (char letter : letters) {
            all.append(letter);
        }
        due("the commands", COMMANDS, all.toString());
    }

    /** All commands of the table are possible here. */
    private static BeltSums prepared(String text) {
        BeltSums x = new BeltSums();
        x.set(1, 3);
        x.bin();
        x.lot(2, 2000);
        x.run(1);
        x.tick(30);
        if (text.startsWith("s")) {
            x.run(0);
        }
        if (text.startsWith("z")) {
            x.run(0);
            x.tick(4);
        }
        Edges.write(x, text);
        return x;
    }

    private static int call(BeltSums x, String name, String[] numbers) throws ReflectiveOperationException {
        Class<?>[] types = new Class<?>[numbers.length];
        Object[] values = new Object[numbers.length];
        for (int i = 0; i < numbers.length; i++) {
            types[i] = int.class;
            values[i] = Integer.parseInt(numbers[i]);
        }
        return (int) BeltSums.class.getMethod(name, types).invoke(x, values);
    }
}
