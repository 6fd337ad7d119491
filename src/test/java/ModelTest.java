import java.util.Random;

/** Runs of 512 calls, drawn from fixed seeds, on BeltSums and on the model side by side. */
public final class ModelTest {
    private static final int RUNS = 3000;
    private static final int CALLS = 512;
    private static final String[] WORDS = {"b", "s", "x", "z", "t", "m", "c", "g", "l"};

    private final Random random;
    // A style is what a run likes to do, so that rare states are reached in some of the runs.
    private final int style;
    private final BeltSums sums = new BeltSums();
    private final Model model = new Model();
    private final StringBuilder told = new StringBuilder();
    private int calls;
    private boolean right = true;

    private ModelTest(int seed) {
        random = new Random(seed);
        style = seed % 6;
    }

    public static void main(String[] args) {
        int passed = 0;
        int failed = 0;
        for (int seed = 0; seed < RUNS; seed++) {
            ModelTest test = new ModelTest(seed);
            test.runAll();
            if (test.right) {
                passed++;
            } else {
                failed++;
                if (failed <= 3) {
                    System.out.println("seed " + seed + ":" + test.told);
                }
            }
        }
        System.out.println("ModelTest: " + passed + " passed, " + failed + " failed");
        if (failed != 0) {
            System.exit(1);
        }
    }

    private void runAll() {
        while (right && calls < CALLS) {
            int dice = random.nextInt(100);
            if (dice < 45) {
                change();
            } else if (dice < 88) {
                look();
            } else if (dice < 92) {
                call("undo", 0, 0);
            } else {
                write();
            }
        }
    }

    private int from(int least, int most) {
        return least + random.nextInt(most - least + 1);
    }

    /** Mostly within the range, sometimes at or just beyond its ends, seldom far off. */
    private int around(int least, int most) {
        int dice = random.nextInt(40);
        if (dice == 0) {
            return least - 1;
        } else if (dice == 1) {
            return most + 1;
        } else if (dice == 2) {
            return random.nextInt();
        } else if (dice == 3) {
            return most;
        } else if (dice == 4) {
            return least;
        }
        return from(least, most);
    }

    private void change() {
        switch (random.nextInt(16)) {
            case 0: case 1: case 2: call("lot", around(0, 3), around(1, style == 1 ? 9999 : style == 2 ? 60 : 900)); break;
            case 3: call("gate", around(0, style == 3 ? 3 : 200), 0); break;
            case 4: case 5: call("run", random.nextInt(5) > 0 ? 1 : around(0, 1), 0); break;
            case 6: if (style != 4 || random.nextInt(3) == 0) { call("bin", 0, 0); } break;
            case 7: case 8: if (style != 5) { call("batch", around(1, style == 1 ? 9999 : 600), 0); } break;
            case 9: call("tick", around(1, style == 3 || style == 1 ? 200 : 12), 0); break;
            case 10: call("tick", around(1, 6), 0); break;
            case 11: call("zero", 0, 0); break;
            case 12: call("correct", around(0, 7), 0); break;
            case 13:
                int what = around(0, 2);
                call("set", what, what == 0 ? around(1, 500) : what == 1 ? around(1, 99) : around(-9, 9));
                break;
            case 14: call("account", around(0, 4), 0); break;
            default: call("book", around(0, 3), around(0, 4)); break;
        }
    }

    private void look() {
        switch (random.nextInt(12)) {
            case 0: call("accountOf", around(0, 7), around(0, 4)); break;
            case 1: case 2: call("massAt", around(0, 11), around(-1, 3)); break;
            case 3: call("lotOf", around(0, 5), around(0, 1)); break;
            case 4: case 5: call("binOf", around(0, 7), around(0, 6)); break;
            case 6: case 7: call("scale", around(0, 6), 0); break;
            case 8: case 9: call("count", around(0, 33), 0); break;
            case 10: call(random.nextBoolean() ? "batchIn" : "batchOut", 0, 0); break;
            default: call("error", 0, 0); break;
        }
    }

    private void write() {
        if (random.nextInt(3) > 0) {
            call("clearText", 0, 0);
        }
        int words = from(0, 5);
        for (int i = 0; i < words; i++) {
            String word = word();
            for (int j = 0; j < word.length(); j++) {
                call("type", random.nextInt(60) == 0 ? around(32, 126) : word.charAt(j), 0);
            }
        }
        call("fault", around(0, 2), 0);
        call("fault", 1, 0);
        call("play", 0, 0);
    }

    private String word() {
        String word = WORDS[random.nextInt(WORDS.length)];
        switch (word) {
            case "t": word += number(from(0, 40)); break;
            case "m": word += number(from(1, 400)); break;
            case "c": word += number(from(0, 4)); break;
            case "g": word += number(from(0, 202)); break;
            case "l": word += number(from(0, 4)) + "," + number(from(0, 700)); break;
            default: break;
        }
        return word + ";";
    }

    private String number(int value) {
        String digits = "" + value;
        return random.nextInt(8) == 0 ? "000".substring(0, from(0, 3)) + digits : digits;
    }

    private void call(String name, int a, int b) {
        if (!right || calls >= CALLS) {
            return;
        }
        calls++;
        long due = model.answer(name, a, b);
        long got = answer(name, a, b);
        told.append(' ').append(name).append('(').append(a).append(',').append(b).append(")=").append(got);
        if (got != due) {
            told.append(", due is ").append(due);
            right = false;
        }
    }

    private int answer(String name, int a, int b) {
        switch (name) {
            case "lot": return sums.lot(a, b);
            case "gate": return sums.gate(a);
            case "run": return sums.run(a);
            case "bin": return sums.bin();
            case "batch": return sums.batch(a);
            case "tick": return sums.tick(a);
            case "zero": return sums.zero();
            case "correct": return sums.correct(a);
            case "set": return sums.set(a, b);
            case "account": return sums.account(a);
            case "book": return sums.book(a, b);
            case "accountOf": return sums.accountOf(a, b);
            case "massAt": return sums.massAt(a, b);
            case "lotOf": return sums.lotOf(a, b);
            case "binOf": return sums.binOf(a, b);
            case "scale": return sums.scale(a);
            case "count": return sums.count(a);
            case "batchIn": return sums.batchIn();
            case "batchOut": return sums.batchOut();
            case "error": return sums.error();
            case "undo": return sums.undo();
            case "type": return sums.type(a);
            case "clearText": return sums.clearText();
            case "fault": return sums.fault(a);
            case "play": return sums.play();
            default: throw new IllegalStateException(name);
        }
    }
}
