/** A test for each sentence of the promises 1 to 22 that names a boundary case. */
public final class PromiseEdgeTest {
    private static final int INVALID = Edges.INVALID;
    private static final int IMPOSSIBLE = Edges.IMPOSSIBLE;
    private static final int LIMIT = Edges.LIMIT;
    private static final int NONE = Edges.NONE;
    private static final int MILLION = Edges.MILLION;
    private static final int MILLIARD = Edges.MILLIARD;
    private static final int[] FAR_OFF = {Integer.MIN_VALUE, Integer.MIN_VALUE + 29, -1000001, 256, 65536, 1 << 30, Integer.MAX_VALUE};

    public static void main(String[] args) throws ReflectiveOperationException {
        Edges.runTests(PromiseEdgeTest.class);
    }

    private static void due(String what, int got, int want) {
        Edges.due(what, got, want);
    }

    // ---- promise 1

    static void newObject() {
        Edges.says("Promise 1", "Creates an empty belt that stands, at the time 0.");
        BeltSums x = new BeltSums();
        due("mass on the belt", x.count(8), 0);
        due("mass in the hopper", x.count(9), 0);
        due("switched on", x.count(2), 0);
        due("a batch", x.count(5), NONE);
        due("the time", x.count(7), 0);
        due("it stood", x.scale(6), 0);
        BeltSums y = new BeltSums();
        y.lot(0, 5);
        y.gate(9);
        due("another object has its own hopper", x.count(0), 0);
        due("and gate", x.count(1), 50);
    }

    // ---- promise 2

    static void lotKinds() {
        Edges.says("Promise 2", "`kind`: 0 to 3");
        Edges.refused("lot(-1, 5)", INVALID, Edges::busy, x -> x.lot(-1, 5));
        Edges.refused("lot(4, 5)", INVALID, Edges::busy, x -> x.lot(4, 5));
        BeltSums x = new BeltSums();
        due("lot(0, 5)", x.lot(0, 5), 1);
        due("lot(3, 6)", x.lot(3, 6), 2);
        for (int kind : FAR_OFF) {
            due("lot of " + kind, x.lot(kind, 5), INVALID);
        }
        due("lots", x.count(0), 2);
        due("the kind", x.lotOf(0, 0), 0);
        due("the kind", x.lotOf(1, 0), 3);
    }

    static void lotMasses() {
        Edges.says("Promise 2", "`mass`: 1 to 9999");
        Edges.refused("lot(0, 0)", INVALID, Edges::busy, x -> x.lot(0, 0));
        Edges.refused("lot(0, 10000)", INVALID, Edges::busy, x -> x.lot(0, 10000));
        Edges.refused("lot(0, -1)", INVALID, Edges::busy, x -> x.lot(0, -1));
        BeltSums x = new BeltSums();
        due("lot(0, 1)", x.lot(0, 1), 1);
        due("lot(0, 9999)", x.lot(0, 9999), 2);
        due("in the hopper", x.count(9), 10000);
        due("put into it", x.count(10), 10000);
        for (int mass : new int[] {Integer.MIN_VALUE, 65536, Integer.MAX_VALUE}) {
            due("lot of " + mass, x.lot(0, mass), INVALID);
        }
    }

    static void lotsAtMost() {
        Edges.says("Promise 2", "LIMIT_REACHED if there are 6");
        BeltSums x = new BeltSums();
        for (int lots = 1; lots <= 6; lots++) {
            due("lot(1, 50)", x.lot(1, 50), lots);
        }
        due("lot(1, 50) once more", x.lot(1, 50), LIMIT);
        due("put into the hopper so far", x.count(10), 300);
        x.run(1);
        x.tick(1);
        due("lot(1, 50) behind a tick", x.lot(1, 50), 6);
        due("put into the hopper so far", x.count(10), 350);
        Edges.refused("a seventh lot", LIMIT, Edges::full, y -> y.lot(0, 9999));
    }

    // ---- promise 3

    static void gateWidths() {
        Edges.says("Promise 3", "`width`: 0 to 200");
        Edges.refused("gate(-1)", INVALID, Edges::busy, x -> x.gate(-1));
        Edges.refused("gate(201)", INVALID, Edges::busy, x -> x.gate(201));
        BeltSums x = new BeltSums();
        due("gate(0)", x.gate(0), 50);
        due("gate(200)", x.gate(200), 0);
        due("gate(200) again", x.gate(200), 200);
        for (int width : FAR_OFF) {
            due("gate(" + width + ")", x.gate(width), INVALID);
        }
        due("the gate", x.count(1), 200);
        x.lot(0, 500);
        x.bin();
        x.batch(500);
        due("gate(100) in a batch", x.gate(100), 200);
        x.tick(1);
        due("fed by it", x.massAt(0, 0), 100);
    }

    // ---- promise 4

    static void switchPositions() {
        Edges.says("Promise 4", "`on`: 1: on; 0: off");
        Edges.refused("run(-1)", INVALID, Edges::busy, x -> x.run(-1));
        Edges.refused("run(2)", INVALID, Edges::busy, x -> x.run(2));
        BeltSums x = new BeltSums();
        due("run(1)", x.run(1), 0);
        due("run(1) again", x.run(1), 1);
        due("run(0)", x.run(0), 1);
        due("run(0) again", x.run(0), 0);
        for (int on : FAR_OFF) {
            due("run(" + on + ")", x.run(on), INVALID);
        }
    }

    static void switchInABatch() {
        Edges.says("Promise 4", "NOT_POSSIBLE if there is a batch");
        Edges.refused("run(1)", IMPOSSIBLE, Edges::inBatch, x -> x.run(1));
        Edges.refused("run(0)", IMPOSSIBLE, Edges::inBatch, x -> x.run(0));
        BeltSums x = Edges.running(1, 1);
        x.batch(1);
        x.tick(12);
        due("run(1) a tick ahead of its end", x.run(1), IMPOSSIBLE);
        x.tick(1);
        due("run(1) at its end", x.run(1), 0);
    }

    // ---- promise 5

    static void binInABatch() {
        Edges.says("Promise 5", "NOT_POSSIBLE if there is a batch");
        Edges.refused("bin()", IMPOSSIBLE, Edges::inBatch, x -> x.bin());
        BeltSums x = Edges.running(1, 1);
        x.batch(1);
        x.tick(12);
        due("bin() a tick ahead of its end", x.bin(), IMPOSSIBLE);
        x.tick(1);
        due("bin() at its end", x.bin(), 1);
    }

    static void binsAtMost() {
        Edges.says("Promise 5", "LIMIT_REACHED if there are 8");
        BeltSums x = new BeltSums();
        for (int bin = 0; bin < 8; bin++) {
            due("bin()", x.bin(), bin);
        }
        due("bin() once more", x.bin(), LIMIT);
        due("bins", x.count(3), 8);
        due("undo() of the last one", x.undo(), 3);
        due("bin() then", x.bin(), 7);
        Edges.refused("a ninth bin", LIMIT, Edges::full, y -> y.bin());
    }

    // ---- promise 6

    static void batchMasses() {
        Edges.says("Promise 6", "`mass`: 1 to 9999");
        Edges.refused("batch(0)", INVALID, Edges::busy, x -> x.batch(0));
        Edges.refused("batch(10000)", INVALID, Edges::busy, x -> x.batch(10000));
        Edges.refused("batch(-1)", INVALID, Edges::busy, x -> x.batch(-1));
        for (int mass : new int[] {1, 9999}) {
            BeltSums x = new BeltSums();
            x.bin();
            due("batch(" + mass + ")", x.batch(mass), 0);
            due("its mass", x.count(5), mass);
        }
        BeltSums x = new BeltSums();
        x.bin();
        for (int mass : new int[] {Integer.MIN_VALUE, 65536, Integer.MAX_VALUE}) {
            due("batch(" + mass + ")", x.batch(mass), INVALID);
        }
    }

    static void batchInABatch() {
        Edges.says("Promise 6", "NOT_POSSIBLE if there is a batch, or no bin");
        Edges.refused("batch(5) without a bin", IMPOSSIBLE, Edges::anew, x -> x.batch(5));
        Edges.refused("batch(5) in a batch", IMPOSSIBLE, Edges::inBatch, x -> x.batch(5));
        BeltSums x = Edges.running(9, 1);
        due("batch(1)", x.batch(1), 0);
        x.tick(12);
        due("batch(1) a tick ahead of its end", x.batch(1), IMPOSSIBLE);
        x.tick(1);
        due("batch(1) at its end", x.batch(1), 0);
        x.tick(13);
        due("the bin", x.binOf(0, 4), 2);
    }

    static void batchSwitchesOff() {
        Edges.says("Promise 6", "the belt is switched off by it (and is not switched on again when the batch is done)");
        BeltSums x = Edges.running(9, 1);
        due("switched on", x.count(2), 1);
        x.batch(1);
        due("switched off", x.count(2), 0);
        x.tick(13);
        due("it is done", x.count(5), NONE);
        due("switched off still", x.count(2), 0);
        x.tick(1);
        due("it stands", x.scale(6), 1);
    }

    static void batchOfABelt() {
        Edges.says("Promise 6", "Returns how much lies on the belt");
        BeltSums x = Edges.running(9999, 50);
        x.tick(30);
        due("a belt that is full", x.batch(700), 600);
        BeltSums y = new BeltSums();
        y.bin();
        y.lot(0, 7);
        due("an empty belt", y.batch(700), 0);
    }

    // ---- promise 7

    static void ticksAtOnce() {
        Edges.says("Promise 7", "`many`: 1 to 200");
        Edges.refused("tick(0)", INVALID, Edges::busy, x -> x.tick(0));
        Edges.refused("tick(-1)", INVALID, Edges::busy, x -> x.tick(-1));
        Edges.refused("tick(201)", INVALID, Edges::busy, x -> x.tick(201));
        BeltSums x = Edges.running(9999, 50);
        due("tick(1)", x.tick(1), 0);
        due("tick(200)", x.tick(200), 189 * 50);
        due("the time", x.count(7), 201);
        for (int many : FAR_OFF) {
            due("tick(" + many + ")", x.tick(many), INVALID);
        }
    }

    static void lastTime() {
        Edges.says("Promise 7", "LIMIT_REACHED if the time would be above 9000");
        Edges.refused("tick(1) at 9000", LIMIT, Edges::late, x -> x.tick(1));
        Edges.refused("tick(200) at 9000", LIMIT, Edges::late, x -> x.tick(200));
        BeltSums x = new BeltSums();
        for (int i = 0; i < 44; i++) {
            x.tick(200);
        }
        due("tick(199)", x.tick(199), 0);
        due("tick(2) at 8999", x.tick(2), LIMIT);
        due("the time", x.count(7), 8999);
        due("tick(1) at 8999", x.tick(1), 0);
        due("the time", x.count(7), 9000);
        x.undo();
        x.undo();
        due("tick(200) at 8800", x.tick(200), 0);
        x.undo();
        due("tick(150)", x.tick(150), 0);
        due("tick(51) at 8950", x.tick(51), LIMIT);
        due("tick(50) at 8950", x.tick(50), 0);
    }

    static void massThatFalls() {
        Edges.says("Promise 7", "Returns the mass that falls at the end in them, into bins or spilt there");
        BeltSums x = new BeltSums();
        x.lot(0, 70);
        x.set(0, 30);
        x.run(1);
        due("nothing yet, in spite of spills at the sides", x.tick(12), 0);
        due("spilt at the sides", x.count(12), 20);
        due("spilt at the end", x.tick(1), 30);
        x.bin();
        due("into a bin", x.tick(1), 20);
        due("nothing more", x.tick(1), 0);
    }

    // ---- promises 8 and 9

    static void zeroAsTold() {
        Edges.says("Promise 8", "Returns what it was, plus 1000000; NOT_POSSIBLE as told.");
        BeltSums x = new BeltSums();
        x.set(1, 1);
        x.set(2, -9);
        due("a zero of 0", x.zero(), MILLION);
        x.tick(200);
        due("a zero of 0 still", x.zero(), MILLION);
        due("a zero below 0", x.zero(), MILLION - 1800);
        x.set(2, 9);
        x.tick(200);
        x.tick(1);
        x.zero();
        due("a zero above 0", x.zero(), MILLION + 9);
        Edges.refused("zero() of places with mass", IMPOSSIBLE, Edges::busy, y -> y.zero());
        Edges.refused("zero() in a batch", IMPOSSIBLE, Edges::inBatch, y -> y.zero());
    }

    static void correctAsTold() {
        Edges.says("Promise 9", "Returns the factor then; INVALID_ARGUMENT; NOT_POSSIBLE as told.");
        Edges.refused("correct(-1)", INVALID, Edges::busy, x -> x.correct(-1));
        Edges.refused("correct(2) of two bins", INVALID, Edges::busy, x -> x.correct(2));
        Edges.refused("correct(0) without a bin", INVALID, Edges::anew, x -> x.correct(0));
        Edges.refused("correct(0) by an empty bin", IMPOSSIBLE, Edges::full, x -> x.correct(0));
        BeltSums x = Edges.running(100, 100);
        x.tick(20);
        for (int bin : FAR_OFF) {
            due("correct(" + bin + ")", x.correct(bin), INVALID);
        }
        due("correct(0)", x.correct(0), 1000);
        x.bin();
        due("correct(0) when it is not the present one", x.correct(0), 1000);
        due("correct(1)", x.correct(1), IMPOSSIBLE);
        due("correct(2)", x.correct(2), INVALID);
    }

    // ---- promise 10

    static void whatOfSettings() {
        Edges.says("Promise 10", "`what`: 0 to 2");
        Edges.refused("set(-1, 1)", INVALID, Edges::busy, x -> x.set(-1, 1));
        Edges.refused("set(3, 1)", INVALID, Edges::busy, x -> x.set(3, 1));
        BeltSums x = new BeltSums();
        for (int what : FAR_OFF) {
            due("set(" + what + ", 1)", x.set(what, 1), INVALID);
        }
    }

    static void valuesOfSettings() {
        Edges.says("Promise 10", "`value`: a value in its range");
        int[] first = {120, 20, 1};
        int[] least = {1, 1, -9};
        int[] most = {500, 99, 9};
        for (int setting = 0; setting < 3; setting++) {
            int what = setting;
            Edges.refused("a value too small for " + what, INVALID, Edges::busy, x -> x.set(what, least[what] - 1));
            Edges.refused("a value too great for " + what, INVALID, Edges::busy, x -> x.set(what, most[what] + 1));
            BeltSums x = new BeltSums();
            due("the least one", x.set(what, least[what]), first[what]);
            due("the greatest one", x.set(what, most[what]), least[what]);
            due("what it was", x.set(what, first[what]), most[what]);
            for (int value : FAR_OFF) {
                if (what > 0 || value != 256) {
                    due("set(" + what + ", " + value + ")", x.set(what, value), INVALID);
                }
            }
        }
    }

    // ---- promises 11 and 12

    static void accountsWithin() {
        Edges.says("Promise 11", "`within`: number of the account within which it is");
        Edges.refused("account(-1)", INVALID, Edges::busy, x -> x.account(-1));
        Edges.refused("account(3) of three accounts", INVALID, Edges::busy, x -> x.account(3));
        BeltSums x = new BeltSums();
        due("account(1) of the root alone", x.account(1), INVALID);
        due("account(0)", x.account(0), 1);
        due("account(1)", x.account(1), 2);
        for (int within : FAR_OFF) {
            due("account(" + within + ")", x.account(within), INVALID);
        }
    }

    static void accountsAtMost() {
        Edges.says("Promise 11", "LIMIT_REACHED if there are 7 besides the root");
        BeltSums x = new BeltSums();
        for (int number = 1; number <= 7; number++) {
            due("account(0)", x.account(0), number);
        }
        due("account(0) once more", x.account(0), LIMIT);
        due("account(7) once more", x.account(7), LIMIT);
        x.undo();
        due("account(6) behind undo()", x.account(6), 7);
        due("within", x.accountOf(7, 0), 6);
        x.undo();
        due("account(2) behind undo()", x.account(2), 7);
        due("within", x.accountOf(7, 0), 2);
        Edges.refused("an eighth account", LIMIT, Edges::full, y -> y.account(7));
    }

    static void bookedKinds() {
        Edges.says("Promise 12", "Returns the account to which it was booked; INVALID_ARGUMENT if an argument is out of range.");
        Edges.refused("book(-1, 0)", INVALID, Edges::busy, x -> x.book(-1, 0));
        Edges.refused("book(4, 0)", INVALID, Edges::busy, x -> x.book(4, 0));
        Edges.refused("book(0, -1)", INVALID, Edges::busy, x -> x.book(0, -1));
        Edges.refused("book(0, 3) of three accounts", INVALID, Edges::busy, x -> x.book(0, 3));
        BeltSums x = new BeltSums();
        x.account(0);
        due("book(0, 1)", x.book(0, 1), 0);
        due("book(3, 1)", x.book(3, 1), 0);
        due("book(3, 1) again", x.book(3, 1), 1);
        due("book(3, 0)", x.book(3, 0), 1);
        for (int far : FAR_OFF) {
            due("book(" + far + ", 0)", x.book(far, 0), INVALID);
            due("book(0, " + far + ")", x.book(0, far), INVALID);
        }
        due("kind 0", x.count(30), 1);
        due("kind 3", x.count(33), 0);
    }

    static void bookedFromNowOn() {
        Edges.says("Promise 12", "Books a kind to an account: from now on.");
        BeltSums x = Edges.running(30, 10);
        x.account(0);
        x.tick(13);
        x.book(0, 1);
        due("what was booked stays", x.accountOf(0, 1), 10);
        due("nothing yet", x.accountOf(1, 1), 0);
        x.tick(1);
        due("from now on", x.accountOf(1, 1), 10);
        x.book(0, 0);
        x.tick(1);
        due("and back", x.accountOf(0, 1), 20);
        due("of all", x.accountOf(0, 2), 30);
    }

    // ---- promise 13

    static void whatOfAccounts() {
        Edges.says("Promise 13", "`what`: 0: the account within which it is");
        Edges.refused("accountOf(0, -1)", INVALID, Edges::busy, x -> x.accountOf(0, -1));
        Edges.refused("accountOf(1, 5)", INVALID, Edges::busy, x -> x.accountOf(1, 5));
        Edges.refused("accountOf(-1, 0)", INVALID, Edges::busy, x -> x.accountOf(-1, 0));
        Edges.refused("accountOf(3, 0) of three accounts", INVALID, Edges::busy, x -> x.accountOf(3, 0));
        BeltSums x = new BeltSums();
        for (int far : FAR_OFF) {
            due("accountOf(" + far + ", 1)", x.accountOf(far, 1), INVALID);
            due("accountOf(0, " + far + ")", x.accountOf(0, far), INVALID);
        }
    }

    static void rootWithinNone() {
        Edges.says("Promise 13", "NOT_FOUND for 0 for the root");
        BeltSums x = new BeltSums();
        due("accountOf(0, 0)", x.accountOf(0, 0), NONE);
        due("accountOf(0, 4)", x.accountOf(0, 4), 0);
        x.account(0);
        due("accountOf(0, 0)", x.accountOf(0, 0), NONE);
        due("accountOf(1, 0)", x.accountOf(1, 0), 0);
        due("accountOf(1, 4)", x.accountOf(1, 4), 1);
    }

    static void accountsUnderOthers() {
        Edges.says("Promise 13", "3: how many accounts are under it (within it, within these, and so on)");
        BeltSums x = new BeltSums();
        due("under the root alone", x.accountOf(0, 3), 0);
        int[] within = {0, 0, 1, 1, 3, 2, 5};
        for (int outer : within) {
            x.account(outer);
        }
        int[] under = {7, 4, 1, 2, 0, 1, 0, 0};
        int[] depths = {0, 1, 1, 2, 2, 3, 2, 4};
        for (int account = 0; account < 8; account++) {
            due("under " + account, x.accountOf(account, 3), under[account]);
            due("how deep " + account + " is", x.accountOf(account, 4), depths[account]);
        }
    }

    static void massUnderAccounts() {
        Edges.says("Promise 13", "2: that, and what was booked to all under it");
        BeltSums x = new BeltSums();
        for (int outer = 0; outer < 7; outer++) {
            x.account(outer);
        }
        int[] accounts = {0, 1, 6, 7};
        for (int kind = 0; kind < 4; kind++) {
            x.book(kind, accounts[kind]);
            x.lot(kind, 1 << kind);
        }
        x.bin();
        x.run(1);
        x.tick(13);
        int[] all = {15, 14, 12, 12, 12, 12, 12, 8};
        int[] own = {1, 2, 0, 0, 0, 0, 4, 8};
        for (int account = 0; account < 8; account++) {
            due("booked to " + account + " and under it", x.accountOf(account, 2), all[account]);
            due("booked to " + account + " itself", x.accountOf(account, 1), own[account]);
        }
    }

    // ---- promises 14 to 16

    static void placesAndKinds() {
        Edges.says("Promise 14", "`kind`: 0 to 3, or -1: of all kinds");
        Edges.refused("massAt(-1, 0)", INVALID, Edges::busy, x -> x.massAt(-1, 0));
        Edges.refused("massAt(12, 0)", INVALID, Edges::busy, x -> x.massAt(12, 0));
        Edges.refused("massAt(0, 4)", INVALID, Edges::busy, x -> x.massAt(0, 4));
        Edges.refused("massAt(0, -2)", INVALID, Edges::busy, x -> x.massAt(0, -2));
        Edges.refused("massAt(12, -1)", INVALID, Edges::busy, x -> x.massAt(12, -1));
        BeltSums x = Edges.running(7, 10);
        x.lot(3, 8);
        x.tick(12);
        due("massAt(11, 0)", x.massAt(11, 0), 7);
        due("massAt(11, 3)", x.massAt(11, 3), 3);
        due("massAt(11, -1)", x.massAt(11, -1), 10);
        due("massAt(10, 3)", x.massAt(10, 3), 5);
        due("massAt(0, 3)", x.massAt(0, 3), 0);
        for (int far : FAR_OFF) {
            due("massAt(" + far + ", 0)", x.massAt(far, 0), INVALID);
            due("massAt(0, " + far + ")", x.massAt(0, far), INVALID);
        }
    }

    static void lotsAsked() {
        Edges.says("Promise 15", "INVALID_ARGUMENT if index is negative or what is out of range; NOT_FOUND if there are not so many.");
        Edges.refused("lotOf(-1, 0)", INVALID, Edges::full, x -> x.lotOf(-1, 0));
        Edges.refused("lotOf(0, -1)", INVALID, Edges::full, x -> x.lotOf(0, -1));
        Edges.refused("lotOf(0, 2)", INVALID, Edges::full, x -> x.lotOf(0, 2));
        Edges.refused("lotOf(6, 0)", NONE, Edges::full, x -> x.lotOf(6, 0));
        Edges.refused("lotOf(0, 0) without a lot", NONE, Edges::anew, x -> x.lotOf(0, 0));
        BeltSums x = new BeltSums();
        Edges.full(x);
        due("lotOf(5, 0)", x.lotOf(5, 0), 1);
        due("lotOf(5, 1)", x.lotOf(5, 1), 25);
        due("lotOf(MAX, 1)", x.lotOf(Integer.MAX_VALUE, 1), NONE);
        due("lotOf(MIN, 1)", x.lotOf(Integer.MIN_VALUE, 1), INVALID);
        due("lotOf(MAX, 2)", x.lotOf(Integer.MAX_VALUE, 2), INVALID);
        due("lotOf(0, MIN)", x.lotOf(0, Integer.MIN_VALUE), INVALID);
        x.undo();
        BeltSums y = new BeltSums();
        y.lot(0, 1);
        due("lotOf(1, 0)", y.lotOf(1, 0), NONE);
    }

    static void binsAsked() {
        Edges.says("Promise 16", "`what`: 0 to 3: its mass of this kind; 4: all of its mass");
        Edges.refused("binOf(0, 4) without a bin", INVALID, Edges::anew, x -> x.binOf(0, 4));
        Edges.refused("binOf(2, 4) of two bins", INVALID, Edges::busy, x -> x.binOf(2, 4));
        Edges.refused("binOf(-1, 4)", INVALID, Edges::busy, x -> x.binOf(-1, 4));
        Edges.refused("binOf(0, -1)", INVALID, Edges::busy, x -> x.binOf(0, -1));
        Edges.refused("binOf(0, 7)", INVALID, Edges::busy, x -> x.binOf(0, 7));
        BeltSums x = new BeltSums();
        for (int kind = 0; kind < 4; kind++) {
            x.lot(kind, 1 << kind);
        }
        for (int bin = 0; bin < 8; bin++) {
            x.bin();
        }
        x.run(1);
        x.tick(13);
        for (int kind = 0; kind < 4; kind++) {
            due("binOf(7, " + kind + ")", x.binOf(7, kind), 1 << kind);
            due("binOf(6, " + kind + ")", x.binOf(6, kind), 0);
        }
        due("binOf(7, 4)", x.binOf(7, 4), 15);
        for (int far : FAR_OFF) {
            due("binOf(" + far + ", 4)", x.binOf(far, 4), INVALID);
            due("binOf(0, " + far + ")", x.binOf(0, far), INVALID);
        }
    }

    static void growthBelowZero() {
        Edges.says("Promise 16", "5: what the sum of the scale became greater by in the ticks in which it was the present one, plus 1000000000");
        BeltSums x = new BeltSums();
        x.set(1, 1);
        x.set(2, -9);
        x.bin();
        due("at first", x.binOf(0, 5), MILLIARD);
        x.run(1);
        x.tick(200);
        // A quarter of 9 times the numbers from 1 to 200.
        due("below 0", x.binOf(0, 5), MILLIARD - 45225);
        x.bin();
        x.tick(1);
        due("an earlier one stays", x.binOf(0, 5), MILLIARD - 45225);
        due("the present one", x.binOf(1, 5), MILLIARD - 452);
    }

    static void ticksInWhichSomethingFell() {
        Edges.says("Promise 16", "6: ticks in which something fell into it");
        BeltSums x = Edges.running(3, 1);
        x.tick(12);
        due("nothing yet", x.binOf(0, 6), 0);
        x.tick(1);
        due("one gram", x.binOf(0, 6), 1);
        x.gate(0);
        x.tick(1);
        due("one gram more", x.binOf(0, 6), 2);
        x.tick(100);
        due("ticks in which nothing fell do not count", x.binOf(0, 6), 3);
        x.run(0);
        x.tick(9);
        due("nor those in which it stood", x.binOf(0, 6), 3);
    }

    // ---- promises 17 and 18

    static void whatOfTheScale() {
        Edges.says("Promise 17", "Returns the number; INVALID_ARGUMENT if what is out of range.");
        Edges.refused("scale(-1)", INVALID, Edges::busy, x -> x.scale(-1));
        Edges.refused("scale(7)", INVALID, Edges::busy, x -> x.scale(7));
        BeltSums x = new BeltSums();
        int[] first = {MILLION, MILLION, MILLION, MILLIARD, MILLIARD, 1000, 0};
        for (int what = 0; what < 7; what++) {
            due("scale(" + what + ")", x.scale(what), first[what]);
        }
        for (int what : FAR_OFF) {
            due("scale(" + what + ")", x.scale(what), INVALID);
        }
    }

    static void ticksThatItStood() {
        Edges.says("Promise 17", "6: the ticks for which the belt has stood (0 if it ran in the latest one)");
        BeltSums x = new BeltSums();
        x.tick(200);
        x.tick(3);
        due("it stood", x.scale(6), 203);
        x.run(1);
        due("switched on", x.scale(6), 203);
        x.tick(1);
        due("it ran", x.scale(6), 0);
        x.run(0);
        due("switched off", x.scale(6), 0);
        x.tick(1);
        due("it stood again", x.scale(6), 1);
        x.bin();
        x.lot(0, 5);
        x.batch(5);
        x.tick(1);
        due("it ran for a batch", x.scale(6), 0);
        x.tick(12);
        due("the batch's end", x.scale(6), 0);
        x.tick(1);
        due("it stands behind that", x.scale(6), 1);
    }

    static void whatOfCounts() {
        Edges.says("Promise 18", "Returns the number; INVALID_ARGUMENT if what is out of range");
        for (int what : new int[] {-1, 16, 17, 18, 19, 23, 24, 29, 34, 35}) {
            Edges.refused("count(" + what + ")", INVALID, Edges::busy, x -> x.count(what));
        }
        BeltSums x = new BeltSums();
        for (int what : FAR_OFF) {
            due("count(" + what + ")", x.count(what), INVALID);
        }
    }

    static void presentBinAndBatch() {
        Edges.says("Promise 18", "NOT_FOUND for 4 without a bin, for 5 and 6 without a batch");
        BeltSums x = new BeltSums();
        due("count(3)", x.count(3), 0);
        for (int what = 4; what <= 6; what++) {
            due("count(" + what + ")", x.count(what), NONE);
        }
        x.bin();
        due("count(4)", x.count(4), 0);
        due("count(5)", x.count(5), NONE);
        due("count(6)", x.count(6), NONE);
        x.batch(7);
        due("count(5)", x.count(5), 7);
        due("count(6)", x.count(6), 0);
        x.tick(1);
        due("count(5)", x.count(5), NONE);
        due("count(6)", x.count(6), NONE);
        x.undo();
        due("count(5)", x.count(5), 7);
        x.undo();
        x.undo();
        due("count(4)", x.count(4), NONE);
    }

    static void settingsCounted() {
        Edges.says("Promise 18", "20 to 22: the settings 0 to 2 (plus 10 for the setting 2)");
        BeltSums x = new BeltSums();
        x.set(0, 500);
        x.set(1, 99);
        x.set(2, -9);
        due("count(20)", x.count(20), 500);
        due("count(21)", x.count(21), 99);
        due("count(22)", x.count(22), 1);
        x.set(2, 9);
        due("count(22)", x.count(22), 19);
    }

    static void masses() {
        Edges.says("Promise 18", "8: mass on the belt; 9: mass in the hopper; 10: mass that was put into the hopper so far; 11: mass in bins; "
            + "12: spilt so far");
        BeltSums x = new BeltSums();
        for (int i = 0; i < 6; i++) {
            x.lot(i % 4, 9999);
        }
        due("put so far", x.count(10), 59994);
        due("in the hopper", x.count(9), 59994);
        x.gate(200);
        x.run(1);
        x.tick(200);
        x.bin();
        x.tick(100);
        x.bin();
        x.gate(0);
        x.tick(100);
        due("put so far", x.count(10), 59994);
        due("in the hopper", x.count(9), 0);
        due("on the belt", x.count(8), 0);
        // 300 ticks of 200, of which 80 are spilt at the place 0, but for the last one of 194.
        due("spilt at the end, and at the sides", x.count(12), 188 * 120 + 299 * 80 + 74);
        due("in two bins", x.count(11), 112 * 120);
        due("in the last one", x.binOf(1, 4), 12 * 120);
    }

    // ---- promises 19 to 21

    static void planWithoutBatch() {
        Edges.says("Promise 19", "NOT_POSSIBLE if there is no batch");
        Edges.refused("batchIn()", IMPOSSIBLE, Edges::busy, x -> x.batchIn());
        BeltSums x = new BeltSums();
        due("a new object", x.batchIn(), IMPOSSIBLE);
        x.bin();
        due("with a bin", x.batchIn(), IMPOSSIBLE);
        x.batch(1);
        due("in a batch", x.batchIn(), 1);
        x.tick(1);
        due("behind it", x.batchIn(), IMPOSSIBLE);
    }

    static void planOfManyTicks() {
        Edges.says("Promise 19", "NOT_FOUND if it is not done in 2000 ticks");
        due("2000 ticks", longBatch(1988).batchIn(), 2000);
        due("2001 ticks", longBatch(1989).batchIn(), NONE);
        BeltSums x = longBatch(1989);
        x.tick(1);
        due("2000 ticks, a tick later", x.batchIn(), 2000);
        Edges.refused("batchIn() of a gate of 0", NONE, PromiseEdgeTest::endless, y -> y.batchIn());
        BeltSums y = longBatch(1);
        due("the least one", y.batchIn(), 13);
    }

    private static BeltSums longBatch(int mass) {
        BeltSums x = new BeltSums();
        x.bin();
        x.lot(0, 9999);
        x.gate(1);
        x.batch(mass);
        return x;
    }

    private static void endless(BeltSums x) {
        Edges.inBatch(x);
        x.gate(0);
    }

    static void planBeyondTheLastTime() {
        Edges.says("Promise 19", "Tells in how many ticks the batch would be done if nothing else happened.");
        BeltSums x = new BeltSums();
        for (int i = 0; i < 44; i++) {
            x.tick(200);
        }
        x.tick(190);
        x.bin();
        x.lot(0, 9999);
        x.gate(1);
        x.batch(500);
        due("also beyond the time 9000", x.batchIn(), 512);
        due("its mass", x.batchOut(), 500);
        due("tick(11)", x.tick(11), LIMIT);
        due("tick(10)", x.tick(10), 0);
        due("ten ticks less", x.batchIn(), 502);
    }

    static void planIsKept() {
        Edges.says("Promise 20", "Tells how much the present bin would have then.");
        BeltSums x = new BeltSums();
        Edges.busy(x);
        x.batch(1000);
        int ticks = x.batchIn();
        int mass = x.batchOut();
        x.tick(ticks - 1);
        due("a tick ahead of it", x.count(5), 1000);
        due("one tick", x.batchIn(), 1);
        x.tick(1);
        due("it is done", x.count(5), NONE);
        due("the bin", x.binOf(1, 4), mass);
        BeltSums y = new BeltSums();
        y.bin();
        y.batch(9);
        due("an empty bin", y.batchOut(), 0);
        BeltSums z = Edges.running(90, 90);
        z.tick(13);
        z.batch(9);
        due("what it has already", z.batchOut(), 90);
    }

    static void massWithoutBatch() {
        Edges.says("Promise 20", "NOT_POSSIBLE if there is no batch; NOT_FOUND as for batchIn()");
        Edges.refused("batchOut()", IMPOSSIBLE, Edges::busy, x -> x.batchOut());
        Edges.refused("batchOut() of a gate of 0", NONE, PromiseEdgeTest::endless, x -> x.batchOut());
        due("2000 ticks", longBatch(1988).batchOut(), 1988);
        due("2001 ticks", longBatch(1989).batchOut(), NONE);
        due("a new object", new BeltSums().batchOut(), IMPOSSIBLE);
    }

    static void errorsOfTotals() {
        Edges.says("Promise 21", "Returns the told total less that mass, plus 1000000000.");
        due("a new object", new BeltSums().error(), MILLIARD);
        BeltSums x = Edges.running(100, 100);
        x.tick(12);
        due("more is told than fell", x.error(), MILLIARD + 100);
        x.tick(1);
        due("as much", x.error(), MILLIARD);
        BeltSums y = Edges.running(200, 100);
        y.tick(13);
        y.correct(0);
        y.tick(1);
        due("less is told than fell", y.error(), MILLIARD - 100);
        BeltSums z = new BeltSums();
        z.set(2, 0);
        z.lot(0, 30);
        z.set(0, 20);
        z.run(1);
        z.tick(12);
        due("what was spilt at the sides did not fall at the end", z.error(), MILLIARD + 20);
        z.tick(1);
        due("what was spilt at the end did", z.error(), MILLIARD);
    }

    // ---- promise 22

    static void undoOfNothing() {
        Edges.says("Promise 22", "NOT_POSSIBLE if it is empty");
        Edges.refused("undo()", IMPOSSIBLE, Edges::anew, x -> x.undo());
        BeltSums x = new BeltSums();
        x.gate(5);
        due("undo()", x.undo(), 0);
        due("undo() of nothing", x.undo(), IMPOSSIBLE);
        due("the gate", x.count(1), 50);
        x.gate(201);
        due("undo() behind an error", x.undo(), IMPOSSIBLE);
        x.type('b');
        due("undo() behind type()", x.undo(), IMPOSSIBLE);
        due("the text", x.count(15), 1);
    }

    static void undoRestoresAll() {
        Edges.says("Promise 22", "Restores the latest state of the history, which is removed from it.");
        undone("lot", Edges::busy, x -> x.lot(3, 9999));
        undone("gate", Edges::busy, x -> x.gate(0));
        undone("run", Edges::busy, x -> x.run(0));
        undone("bin", Edges::busy, x -> x.bin());
        undone("batch", Edges::busy, x -> x.batch(9999));
        undone("tick", Edges::busy, x -> x.tick(1));
        undone("many ticks", Edges::busy, x -> x.tick(200));
        undone("ticks of a batch", Edges::inBatch, x -> x.tick(40));
        undone("one tick of a batch", Edges::inBatch, x -> x.tick(1));
        undone("the tick in which a batch stops feeding", PromiseEdgeTest::fedEnough, x -> x.tick(1));
        undone("the tick in which a batch is done", PromiseEdgeTest::almostDone, x -> x.tick(1));
        undone("zero", PromiseEdgeTest::standing, x -> x.zero());
        undone("correct", Edges::busy, x -> x.correct(1));
        undone("set", Edges::busy, x -> x.set(0, 1));
        undone("account", Edges::busy, x -> x.account(2));
        undone("book", Edges::busy, x -> x.book(1, 0));
        undone("play", Edges::busy, x -> x.play());
    }

    private static void fedEnough(BeltSums x) {
        Edges.busy(x);
        x.batch(1);
    }

    private static void almostDone(BeltSums x) {
        Edges.busy(x);
        x.batch(1);
        x.tick(11);
    }

    private static void standing(BeltSums x) {
        Edges.busy(x);
        x.run(0);
        x.tick(4);
    }

    /** All that lies ahead is as without the change; the history has lost its oldest state by it, and is not compared. */
    private static void undone(String name, java.util.function.Consumer<BeltSums> made, java.util.function.ToIntFunction<BeltSums> change) {
        BeltSums x = new BeltSums();
        made.accept(x);
        due(name + " is a change", change.applyAsInt(x) < -1000000 ? 0 : 1, 1);
        due("undo() of " + name, x.undo(), 3);
        BeltSums y = new BeltSums();
        made.accept(y);
        due("four states", y.count(14), 4);
        Edges.dueRow("what follows from undo() of " + name, Edges.ahead(x), Edges.ahead(y));
    }
}
