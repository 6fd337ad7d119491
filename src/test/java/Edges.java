import java.lang.reflect.Method;
import java.lang.reflect.Modifier;
import java.util.Arrays;
import java.util.Comparator;
import java.util.function.Consumer;
import java.util.function.ToIntFunction;

/** What the edge tests share: the sentence that a test is about, answers that are due, and refused calls. */
final class Edges {
    static final int INVALID = -1000001;
    static final int IMPOSSIBLE = -1000002;
    static final int LIMIT = -1000003;
    static final int NONE = -1000004;
    static final int MILLION = 1000000;
    static final int MILLIARD = 1000000000;

    private static int passed;
    private static int failed;
    private static String where = "";
    private static String words = "";

    private Edges() {
    }

    /** Runs each method of the class that takes nothing and answers nothing, by its name, and ends with 1 if one failed. */
    static void runTests(Class<?> tests) throws ReflectiveOperationException {
        Method[] methods = tests.getDeclaredMethods();
        Arrays.sort(methods, Comparator.comparing(Method::getName));
        int many = 0;
        for (Method method : methods) {
            boolean isTest = method.getParameterCount() == 0 && method.getReturnType() == void.class;
            if (isTest && Modifier.isStatic(method.getModifiers()) && !method.isSynthetic()) {
                method.setAccessible(true);
                where = method.getName();
                words = "";
                method.invoke(null);
                many++;
                due("a sentence told by " + method.getName(), words.isEmpty() ? 0 : 1, 1);
            }
        }
        System.out.println(tests.getName() + ": " + many + " sentences, " + passed + " passed, " + failed + " failed");
        if (failed != 0 || many == 0) {
            System.exit(1);
        }
    }

    /** Tells the sentence of the document that the calls behind it would break. */
    static void says(String section, String sentence) {
        where = section;
        words = sentence;
    }

    static void due(String what, int got, int want) {
        if (got == want) {
            passed++;
        } else {
            failed++;
            System.out.println(where + ", \"" + words + "\": " + what + " answered " + got + ", due is " + want);
        }
    }

    static void dueRow(String what, int[] got, int... want) {
        due("the length of " + what, got.length, want.length);
        for (int i = 0; i < got.length && i < want.length; i++) {
            due(what + " [" + i + "]", got[i], want[i]);
        }
    }

    /** The call answers this error, and the object then answers all as one that was not called. */
    static void refused(String call, int want, Consumer<BeltSums> made, ToIntFunction<BeltSums> refusedCall) {
        BeltSums called = new BeltSums();
        made.accept(called);
        due(call, refusedCall.applyAsInt(called), want);
        BeltSums other = new BeltSums();
        made.accept(other);
        dueRow("all behind " + call, all(called), all(other));
    }

    /** The call answers something that is no error, and the object then answers all as one that was not called. */
    static void changesNothing(String call, Consumer<BeltSums> made, ToIntFunction<BeltSums> look) {
        BeltSums called = new BeltSums();
        made.accept(called);
        look.applyAsInt(called);
        BeltSums other = new BeltSums();
        made.accept(other);
        dueRow("all behind " + call, all(called), all(other));
    }

    static void write(BeltSums x, String text) {
        x.clearText();
        for (int i = 0; i < text.length(); i++) {
            x.type(text.charAt(i));
        }
    }

    /** A belt with one lot of the kind 0, one bin, no drift, and switched on. */
    static BeltSums running(int mass, int width) {
        BeltSums x = new BeltSums();
        x.set(2, 0);
        x.lot(0, mass);
        x.bin();
        x.gate(width);
        x.run(1);
        return x;
    }

    /** Nothing has been called. */
    static void anew(BeltSums x) {
    }

    /** In the midst of its work: lots, mass on all places, two bins, accounts, drift, four states and a text. */
    static void busy(BeltSums x) {
        x.lot(1, 500);
        x.lot(2, 900);
        x.lot(0, 800);
        x.account(0);
        x.account(1);
        x.book(1, 2);
        x.set(1, 3);
        x.set(2, 2);
        x.set(0, 65);
        x.bin();
        x.run(1);
        x.gate(70);
        x.tick(17);
        x.bin();
        x.tick(5);
        write(x, "g9;");
    }

    /** The same with a batch that feeds. */
    static void inBatch(BeltSums x) {
        busy(x);
        x.batch(1500);
        x.tick(3);
    }

    /** Six lots, eight bins, eight accounts and sixty characters. */
    static void full(BeltSums x) {
        for (int i = 0; i < 6; i++) {
            x.lot(i % 4, 20 + i);
        }
        for (int i = 0; i < 8; i++) {
            x.bin();
        }
        for (int i = 0; i < 7; i++) {
            x.account(i);
        }
        write(x, "x;".repeat(30));
    }

    static void fullInBatch(BeltSums x) {
        full(x);
        x.batch(30);
    }

    /** At the time 9000. */
    static void late(BeltSums x) {
        for (int i = 0; i < 45; i++) {
            x.tick(200);
        }
    }

    /** What the object tells of everything, of what follows from it, and of what was before it. */
    static int[] all(BeltSums x) {
        int[] rows = new int[512];
        int row = lookAhead(x, rows, 0);
        for (int undo = 0; undo < 6; undo++) {
            rows[row++] = x.count(14);
            rows[row++] = x.undo();
            row = lookShortly(x, rows, row);
        }
        return Arrays.copyOf(rows, row);
    }

    /** What the object tells of everything but its history, and of what follows from it. */
    static int[] ahead(BeltSums x) {
        int[] rows = new int[512];
        return Arrays.copyOf(rows, lookAhead(x, rows, 0));
    }

    private static int lookAhead(BeltSums x, int[] rows, int from) {
        int row = from;
        for (int what = 0; what < 34; what++) {
            if (what != 14) {
                rows[row++] = x.count(what);
            }
        }
        for (int place = 0; place < 12; place++) {
            for (int kind = 0; kind < 4; kind++) {
                rows[row++] = x.massAt(place, kind);
            }
        }
        for (int lot = 0; lot < 6; lot++) {
            rows[row++] = x.lotOf(lot, 0);
            rows[row++] = x.lotOf(lot, 1);
        }
        for (int bin = 0; bin < 8; bin++) {
            for (int what = 4; what < 7; what++) {
                rows[row++] = x.binOf(bin, what);
            }
        }
        for (int account = 0; account < 8; account++) {
            for (int what = 0; what < 3; what++) {
                rows[row++] = x.accountOf(account, what);
            }
        }
        for (int what = 0; what < 7; what++) {
            rows[row++] = x.scale(what);
        }
        for (int what = 0; what < 3; what++) {
            rows[row++] = x.fault(what);
        }
        rows[row++] = x.batchIn();
        rows[row++] = x.batchOut();
        rows[row++] = x.error();
        rows[row++] = x.tick(1);
        return lookShortly(x, rows, row);
    }

    private static int lookShortly(BeltSums x, int[] rows, int from) {
        int row = from;
        int[] counts = {0, 1, 2, 3, 5, 6, 7, 8, 9, 11, 12, 13, 15, 20, 21, 22};
        for (int what : counts) {
            rows[row++] = x.count(what);
        }
        rows[row++] = x.scale(2);
        rows[row++] = x.scale(3);
        rows[row++] = x.scale(5);
        rows[row++] = x.massAt(0, -1);
        return row;
    }
}
