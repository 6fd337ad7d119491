/** A test for each sentence on texts, and of the promises 23 to 26, that names a boundary case. */
public final class TextEdgeTest {
    private static final int INVALID = Edges.INVALID;
    private static final int IMPOSSIBLE = Edges.IMPOSSIBLE;
    private static final int LIMIT = Edges.LIMIT;
    private static final int NONE = Edges.NONE;
    private static final int MILLION = Edges.MILLION;

    public static void main(String[] args) throws ReflectiveOperationException {
        Edges.runTests(TextEdgeTest.class);
    }

    private static void due(String what, int got, int want) {
        Edges.due(what, got, want);
    }

    private static BeltSums written(String text) {
        BeltSums x = new BeltSums();
        Edges.write(x, text);
        return x;
    }

    /** The text has no fault on a new object, and so many commands. */
    private static void possible(String text, int commands) {
        BeltSums x = written(text);
        for (int what = 0; what < 3; what++) {
            due("fault(" + what + ") of " + text, x.fault(what), NONE);
        }
        due("play() of " + text, x.play(), commands);
        due("states behind " + text, x.count(14), 1);
    }

    /** The text has this fault on a new object; a cause of NONE stands for the reason 1. */
    private static void faulty(String text, int position, int cause) {
        BeltSums x = written(text);
        due("the position in " + text, x.fault(0), position);
        due("the reason in " + text, x.fault(1), cause == NONE ? 1 : 2);
        due("the cause in " + text, x.fault(2), cause);
        due("play() of " + text, x.play(), IMPOSSIBLE);
        due("states behind " + text, x.count(14), 0);
    }

    private static void notOfTheForm(String... texts) {
        for (String text : texts) {
            faulty(text, 0, NONE);
            faulty("g9;x;" + text, 5, NONE);
        }
    }

    // ---- texts

    static void lengthOfTexts() {
        Edges.says("Texts", "There is a text of at most 60 characters, initially empty");
        due("at first", new BeltSums().count(15), 0);
        BeltSums x = written("x;".repeat(29) + "x");
        due("59 characters", x.count(15), 59);
        due("the last one is not of the form", x.fault(0), 58);
        due("the sixtieth", x.type(';'), 60);
        due("a character more", x.type(';'), LIMIT);
        due("thirty commands", x.play(), 30);
        BeltSums y = written("g9;" + "x;".repeat(28) + "x");
        due("60 characters", y.count(15), 60);
        due("the position of the last one", y.fault(0), 59);
        due("the reason", y.fault(1), 1);
        BeltSums z = written("x;".repeat(25) + "l0003,9999");
        due("60 characters without an end", z.count(15), 60);
        due("the position", z.fault(0), 50);
        BeltSums w = written("x;".repeat(24) + "xx;l003,9999");
        due("60 characters with a fault ahead", w.fault(0), 48);
        BeltSums v = written("s;x;".repeat(6) + "z;g0001;g0002;t0001;l0003,9999;x;z;s");
        due("60 characters of all", v.count(15), 60);
        due("the position", v.fault(0), 59);
    }

    static void commandsWithTheirEnd() {
        Edges.says("Texts", "commands, each followed by \";\"");
        possible("", 0);
        possible("b;", 1);
        possible("b;x;", 2);
        notOfTheForm("b", ";", ";;", "bx;", "b,", "b:", "b ;", " b;", "z");
        faulty("b;;", 2, NONE);
        faulty("b;x", 2, NONE);
        faulty("b; x;", 2, NONE);
        faulty("b;x;;", 4, NONE);
    }

    static void lotCommands() {
        Edges.says("Texts", "\"l\" a kind \",\" a mass (a lot)");
        possible("l0,1;", 1);
        possible("l3,9999;", 1);
        faulty("l4,1;", 0, INVALID);
        faulty("l9999,1;", 0, INVALID);
        faulty("l3,0;", 0, INVALID);
        faulty("l0,0000;", 0, INVALID);
        notOfTheForm("l;", "l,;", "l0;", "l0,;", "l,1;", "l0,1", "l0,1,", "l0,1,1;", "l0;1;", "l0 ,1;", "l0,-1;", "l-1,1;", "l0,,1;", "L0,1;");
        BeltSums x = written("l3,77;");
        x.play();
        due("its kind", x.lotOf(0, 0), 3);
        due("its mass", x.lotOf(0, 1), 77);
    }

    static void gateCommands() {
        Edges.says("Texts", "\"g\" a width");
        possible("g0;", 1);
        possible("g200;", 1);
        faulty("g201;", 0, INVALID);
        faulty("g9999;", 0, INVALID);
        notOfTheForm("g;", "g", "g1", "g,", "g,1;", "g1,1;", "g-1;", "g+1;", "g1.;", "G1;");
        BeltSums x = written("g123;");
        x.play();
        due("the gate", x.count(1), 123);
    }

    static void binCommands() {
        Edges.says("Texts", "\"b\" (a new bin)");
        possible("b;b;b;b;b;b;b;b;", 8);
        faulty("b;b;b;b;b;b;b;b;b;", 16, LIMIT);
        faulty("b;m1;b;", 5, IMPOSSIBLE);
        notOfTheForm("b0;", "b1;", "bb;", "B;");
    }

    static void switchCommands() {
        Edges.says("Texts", "\"s\" (switched on), \"x\" (switched off)");
        BeltSums x = written("s;");
        due("s;", x.play(), 1);
        due("switched on", x.count(2), 1);
        Edges.write(x, "x;");
        due("x;", x.play(), 1);
        due("switched off", x.count(2), 0);
        possible("x;s;s;x;x;", 5);
        faulty("b;m1;s;", 5, IMPOSSIBLE);
        faulty("b;m1;x;", 5, IMPOSSIBLE);
        notOfTheForm("s1;", "x0;", "s,;", "S;", "X;");
    }

    static void batchCommands() {
        Edges.says("Texts", "\"m\" a mass (a batch)");
        possible("b;m1;", 2);
        possible("b;m9999;", 2);
        faulty("b;m0;", 2, INVALID);
        faulty("m0;", 0, INVALID);
        faulty("m1;", 0, IMPOSSIBLE);
        faulty("b;m1;m1;", 5, IMPOSSIBLE);
        faulty("b;m1;m0;", 5, INVALID);
        possible("b;m1;t1;m1;", 4);
        notOfTheForm("m;", "m,1;", "m-1;", "m1");
    }

    static void zeroCommands() {
        Edges.says("Texts", "\"z\" (the zero)");
        possible("z;", 1);
        possible("l0,1;s;t4;z;", 4);
        faulty("l0,1;s;t5;z;", 10, IMPOSSIBLE);
        faulty("l0,1;s;t5;x;t3;z;", 15, IMPOSSIBLE);
        possible("l0,1;s;t5;x;t4;z;", 6);
        notOfTheForm("z0;", "Z;");
    }

    static void correctCommands() {
        Edges.says("Texts", "\"c\" a bin (corrected)");
        faulty("c0;", 0, INVALID);
        faulty("b;c0;", 2, IMPOSSIBLE);
        faulty("b;c1;", 2, INVALID);
        faulty("c9999;", 0, INVALID);
        possible("l0,80;b;s;t13;c0;", 5);
        faulty("l0,80;b;s;t12;c0;", 14, IMPOSSIBLE);
        notOfTheForm("c;", "c-1;", "c,;", "c0");
    }

    static void tickCommands() {
        Edges.says("Texts", "or \"t\" ticks");
        possible("t1;", 1);
        possible("t200;", 1);
        faulty("t0;", 0, INVALID);
        faulty("t201;", 0, INVALID);
        faulty("t9999;", 0, INVALID);
        notOfTheForm("t;", "t,1;", "t1", "t-1;", "T1;");
        BeltSums x = new BeltSums();
        for (int i = 0; i < 44; i++) {
            x.tick(200);
        }
        Edges.write(x, "t199;t1;");
        due("up to the last time", x.fault(0), NONE);
        x.type('t');
        x.type('1');
        x.type(';');
        due("a tick beyond it", x.fault(0), 8);
        due("its cause", x.fault(2), LIMIT);
        due("the time", x.count(7), 8800);
    }

    static void otherLetters() {
        Edges.says("Texts", "commands, each followed by \";\"");
        for (int letter = 32; letter < 127; letter++) {
            if ("bsxz".indexOf(letter) < 0) {
                faulty((char) letter + ";", 0, NONE);
            }
            if ("gmct".indexOf(letter) < 0) {
                faulty((char) letter + "1;", 0, NONE);
            }
            if (letter != 'l') {
                faulty((char) letter + "1,1;", 0, NONE);
            }
        }
    }

    static void numbersOfDigits() {
        Edges.says("Texts", "numbers of one to four digits, 0 ahead allowed");
        possible("g5;g05;g005;g0005;", 4);
        possible("g0;g00;g000;g0000;", 4);
        possible("l00,0001;l0003,01;", 2);
        possible("t0200;", 1);
        faulty("c0000;", 0, INVALID);
        notOfTheForm("g00005;", "g00000;", "g12345;", "g;", "l00000,1;", "l0,00001;", "t00001;", "m00001;", "c00000;");
        notOfTheForm("g/;", "g:;", "g1/;", "g1:;", "g 1;", "g1 ;", "g1a;", "ga;");
        BeltSums x = written("g0123;");
        x.play();
        due("0 ahead is no octal", x.count(1), 123);
        Edges.write(x, "l0,9876;");
        x.play();
        due("four digits", x.lotOf(0, 1), 9876);
        Edges.write(x, "l1,0009;");
        x.play();
        due("one of them counts", x.lotOf(1, 1), 9);
    }

    static void firstCommandThatIsNotPossible() {
        Edges.says("Texts", "The fault of the text is the position, from 0, of the first character of the first command that is not possible, "
            + "when those ahead of it are done");
        faulty("g201;g202;", 0, INVALID);
        faulty("g200;g201;q;", 5, INVALID);
        faulty("q;g201;", 0, NONE);
        faulty("g200;q;g201;", 5, NONE);
        possible("l0,9;l0,9;l0,9;l0,9;l0,9;l0,9;", 6);
        faulty("l0,9;l0,9;l0,9;l0,9;l0,9;l0,9;l0,9;", 30, LIMIT);
        possible("l0,9;l0,9;l0,9;l0,9;l0,9;l0,9;s;t1;l0,9;", 9);
        BeltSums x = written("b;m5;t1;");
        due("possible at first", x.fault(0), NONE);
        x.batch(5);
        x.bin();
        x.batch(5);
        due("not possible in a batch", x.fault(0), 0);
        due("its cause", x.fault(2), IMPOSSIBLE);
        x.tick(1);
        due("possible behind it", x.fault(0), NONE);
    }

    static void reasonsOfFaults() {
        Edges.says("Texts", "its reason is 1 if it is not of this form, its \";\" included, and otherwise 2");
        faulty("g201", 0, NONE);
        faulty("g201;", 0, INVALID);
        faulty("m1", 0, NONE);
        faulty("m1;", 0, IMPOSSIBLE);
        faulty("b;b;b;b;b;b;b;b;b", 16, NONE);
        faulty("b;b;b;b;b;b;b;b;b;", 16, LIMIT);
        faulty("l4,1", 0, NONE);
        faulty("l9,", 0, NONE);
        faulty("l9", 0, NONE);
    }

    static void causesOfFaults() {
        Edges.says("Texts", "its cause is then the error code that the call returns for it");
        faulty("l4,1;", 0, INVALID);
        faulty("l0,1;l0,1;l0,1;l0,1;l0,1;l0,1;l0,1;", 30, LIMIT);
        faulty("l0,1;l0,1;l0,1;l0,1;l0,1;l0,1;l4,1;", 30, INVALID);
        faulty("m1;", 0, IMPOSSIBLE);
        BeltSums x = new BeltSums();
        Edges.fullInBatch(x);
        Edges.write(x, "b;");
        due("bin() in a batch with 8 bins", x.fault(2), IMPOSSIBLE);
        BeltSums y = new BeltSums();
        Edges.full(y);
        Edges.write(y, "b;");
        due("bin() with 8 bins", y.fault(2), LIMIT);
        BeltSums z = new BeltSums();
        Edges.late(z);
        Edges.write(z, "t201;");
        due("tick(201) at the last time", z.fault(2), INVALID);
        Edges.write(z, "t200;");
        due("tick(200) at the last time", z.fault(2), LIMIT);
    }

    // ---- promises 23 to 26

    static void characters() {
        Edges.says("Promise 23", "`character`: 32 to 126");
        BeltSums x = new BeltSums();
        due("type(32)", x.type(32), 1);
        due("type(126)", x.type(126), 2);
        Edges.refused("type(31)", INVALID, Edges::busy, y -> y.type(31));
        Edges.refused("type(127)", INVALID, Edges::busy, y -> y.type(127));
        Edges.refused("type(0)", INVALID, Edges::busy, y -> y.type(0));
        Edges.refused("type(-1)", INVALID, Edges::busy, y -> y.type(-1));
        // 65536 more than "x" and 65536 more than 59: a cast to a char would take them.
        Edges.refused("type(65656)", INVALID, Edges::busy, y -> y.type(65656));
        Edges.refused("type(-65477)", INVALID, Edges::busy, y -> y.type(-65477));
    }

    static void charactersAtMost() {
        Edges.says("Promise 23", "LIMIT_REACHED if it has 60 characters");
        BeltSums x = new BeltSums();
        for (int length = 1; length <= 60; length++) {
            due("type('x')", x.type('x'), length);
        }
        due("one more", x.type('x'), LIMIT);
        due("the length", x.count(15), 60);
        due("clearText()", x.clearText(), 60);
        due("type('x') then", x.type('x'), 1);
        Edges.refused("one more", LIMIT, Edges::full, y -> y.type(';'));
    }

    static void emptiedText() {
        Edges.says("Promise 24", "Returns the length it had.");
        BeltSums x = new BeltSums();
        due("clearText() of an empty text", x.clearText(), 0);
        x.type('q');
        due("clearText()", x.clearText(), 1);
        due("once more", x.clearText(), 0);
        due("the length", x.count(15), 0);
        due("no fault", x.fault(0), NONE);
        due("no command", x.play(), 0);
        Edges.write(x, "g5;g6;");
        Edges.write(x, "g7");
        due("nothing is left of the old text", x.fault(0), 0);
    }

    static void whatOfAFault() {
        Edges.says("Promise 25", "`what`: 0: its position; 1: its reason; 2: its cause");
        BeltSums x = written("x;g201;");
        due("fault(0)", x.fault(0), 2);
        due("fault(1)", x.fault(1), 2);
        due("fault(2)", x.fault(2), INVALID);
        due("fault(-1)", x.fault(-1), INVALID);
        due("fault(3)", x.fault(3), INVALID);
        BeltSums y = written("m5;");
        due("fault(-1) of a fault", y.fault(-1), INVALID);
        due("fault(3) of a fault", y.fault(3), INVALID);
        due("fault(2)", y.fault(2), IMPOSSIBLE);
    }

    static void noFault() {
        Edges.says("Promise 25", "NOT_FOUND if the text has no fault (also if it is empty), for 2 if its reason is 1");
        for (int what = 0; what < 3; what++) {
            due("fault(" + what + ") of an empty text", new BeltSums().fault(what), NONE);
            due("fault(" + what + ") of a text without a fault", written("b;t9;").fault(what), NONE);
        }
        BeltSums x = written("b;t9");
        due("the position", x.fault(0), 2);
        due("the reason", x.fault(1), 1);
        due("no cause", x.fault(2), NONE);
        x.type(';');
        due("no fault then", x.fault(0), NONE);
    }

    static void oneChange() {
        Edges.says("Promise 26", "They are one change, also if there are none.");
        BeltSums x = new BeltSums();
        due("play() of an empty text", x.play(), 0);
        due("one state", x.count(14), 1);
        due("undo()", x.undo(), 0);
        Edges.write(x, "l0,80;b;s;t20;g3;x;t5;z;c0;");
        due("nine commands", x.play(), 9);
        due("one state", x.count(14), 1);
        due("the bin", x.count(11), 80);
        due("the gate", x.count(1), 3);
        due("undo()", x.undo(), 0);
        due("no bin", x.count(3), 0);
        due("no lot", x.count(10), 0);
        due("the time", x.count(7), 0);
        due("the gate", x.count(1), 50);
        due("the sum", x.scale(3), Edges.MILLIARD);
        BeltSums y = new BeltSums();
        Edges.write(y, "x;");
        for (int i = 1; i <= 5; i++) {
            y.play();
            due("states", y.count(14), Math.min(i, 4));
        }
    }

    static void textThatStays() {
        Edges.says("Promise 26", "Does all commands of the text, which stays.");
        BeltSums x = written("g7;t1;z;");
        due("play()", x.play(), 3);
        due("the length", x.count(15), 8);
        due("once more", x.play(), 3);
        due("the time", x.count(7), 2);
        due("the zero", x.scale(2), MILLION);
        due("undo()", x.undo(), 1);
        due("it stays still", x.count(15), 8);
        due("clearText()", x.clearText(), 8);
    }

    static void playOfAFault() {
        Edges.says("Promise 26", "NOT_POSSIBLE if it has a fault");
        Edges.refused("play() of one that is not of the form", IMPOSSIBLE, x -> busyWith(x, "g9;t5;b;q"), x -> x.play());
        Edges.refused("play() of one that is not possible", IMPOSSIBLE, x -> busyWith(x, "g9;t5;b;l1,5;g201;"), x -> x.play());
        Edges.refused("play() of a text with the first one", IMPOSSIBLE, x -> busyWith(x, "t0;g9;"), x -> x.play());
        Edges.refused("play() of a text with an open end", IMPOSSIBLE, x -> busyWith(x, "t9;g9"), x -> x.play());
        BeltSums x = written("b;m1;s;");
        due("play()", x.play(), IMPOSSIBLE);
        Edges.write(x, "b;m1;t1;s;");
        due("play() of a mended text", x.play(), 4);
    }

    private static void busyWith(BeltSums x, String text) {
        Edges.busy(x);
        Edges.write(x, text);
    }
}
