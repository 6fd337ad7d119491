import java.util.List;
import java.util.function.Consumer;
import java.util.function.IntFunction;
import java.util.function.ToIntFunction;

/** A test for each sentence that tells what is out of range: in every state INVALID_ARGUMENT is due, and nothing changes. */
public final class RangeEdgeTest {
    private static final int INVALID = Edges.INVALID;
    private static final int[] FAR_OFF = {Integer.MIN_VALUE, -1000001, -65536, 65536, 1 << 30, Integer.MAX_VALUE};
    private static final List<Consumer<BeltSums>> STATES = List.of(Edges::anew, Edges::busy, Edges::inBatch, Edges::full,
        Edges::fullInBatch, Edges::late);
    private static final String[] NAMES = {"new", "busy", "in a batch", "full", "full in a batch", "late"};

    public static void main(String[] args) throws ReflectiveOperationException {
        Edges.runTests(RangeEdgeTest.class);
    }

    /** Neither below the least nor above the most value, nor far off, whatever the state is. */
    private static void within(String argument, int least, int most, IntFunction<ToIntFunction<BeltSums>> call) {
        for (int state = 0; state < NAMES.length; state++) {
            within(argument + " when " + NAMES[state], least, most, STATES.get(state), call);
        }
    }

    private static void within(String argument, int least, int most, Consumer<BeltSums> state, IntFunction<ToIntFunction<BeltSums>> call) {
        Edges.refused(argument + " of " + (least - 1), INVALID, state, call.apply(least - 1));
        Edges.refused(argument + " of " + (most + 1), INVALID, state, call.apply(most + 1));
        for (int value : FAR_OFF) {
            Edges.refused(argument + " of " + value, INVALID, state, call.apply(value));
        }
    }

    private static void withinBins(IntFunction<ToIntFunction<BeltSums>> call) {
        int[] bins = {0, 2, 2, 8, 8, 0};
        for (int state = 0; state < NAMES.length; state++) {
            within("a bin when " + NAMES[state], 0, bins[state] - 1, STATES.get(state), call);
        }
    }

    private static void withinAccounts(IntFunction<ToIntFunction<BeltSums>> call) {
        int[] accounts = {1, 3, 3, 8, 8, 1};
        for (int state = 0; state < NAMES.length; state++) {
            within("an account when " + NAMES[state], 0, accounts[state] - 1, STATES.get(state), call);
        }
    }

    static void constants() {
        Edges.says("Changes and errors", "`INVALID_ARGUMENT = -1000001`: An argument is out of its range, or there is no such bin or account.");
        Edges.due("INVALID_ARGUMENT", BeltSums.INVALID_ARGUMENT, -1000001);
        Edges.due("NOT_POSSIBLE", BeltSums.NOT_POSSIBLE, -1000002);
        Edges.due("LIMIT_REACHED", BeltSums.LIMIT_REACHED, -1000003);
        Edges.due("NOT_FOUND", BeltSums.NOT_FOUND, -1000004);
    }

    static void ofLot() {
        Edges.says("Promise 2", "INVALID_ARGUMENT if an argument is out of range");
        within("lot's kind", 0, 3, value -> x -> x.lot(value, 5));
        within("lot's mass", 1, 9999, value -> x -> x.lot(0, value));
        within("both", 0, 3, value -> x -> x.lot(value, 0));
    }

    static void ofGate() {
        Edges.says("Promise 3", "INVALID_ARGUMENT if width is out of range");
        within("gate's width", 0, 200, value -> x -> x.gate(value));
    }

    static void ofRun() {
        Edges.says("Promise 4", "INVALID_ARGUMENT if on is out of range");
        within("run's switch", 0, 1, value -> x -> x.run(value));
    }

    static void ofBatch() {
        Edges.says("Promise 6", "INVALID_ARGUMENT if mass is out of range");
        within("batch's mass", 1, 9999, value -> x -> x.batch(value));
    }

    static void ofTick() {
        Edges.says("Promise 7", "INVALID_ARGUMENT if many is out of range");
        within("tick's number", 1, 200, value -> x -> x.tick(value));
    }

    static void ofCorrect() {
        Edges.says("Promise 9", "`bin`: number of the bin");
        withinBins(value -> x -> x.correct(value));
    }

    static void ofSet() {
        Edges.says("Promise 10", "INVALID_ARGUMENT if an argument is out of range");
        within("set's setting", 0, 2, value -> x -> x.set(value, 1));
        within("setting 0", 1, 500, value -> x -> x.set(0, value));
        within("setting 1", 1, 99, value -> x -> x.set(1, value));
        within("setting 2", -9, 9, value -> x -> x.set(2, value));
    }

    static void ofAccount() {
        Edges.says("Promise 11", "Returns its number; INVALID_ARGUMENT");
        withinAccounts(value -> x -> x.account(value));
    }

    static void ofBookedKind() {
        Edges.says("Promise 12", "`kind`: 0 to 3");
        within("book's kind", 0, 3, value -> x -> x.book(value, 0));
        BeltSums x = new BeltSums();
        x.account(0);
        for (int kind = 0; kind < 4; kind++) {
            Edges.due("book(" + kind + ", 1)", x.book(kind, 1), 0);
            Edges.due("the account of " + kind, x.count(30 + kind), 1);
        }
    }

    static void ofBookedAccount() {
        Edges.says("Promise 12", "`account`: number of the account");
        withinAccounts(value -> x -> x.book(3, value));
    }

    static void ofAccountOf() {
        Edges.says("Promise 13", "INVALID_ARGUMENT if an argument is out of range");
        withinAccounts(value -> x -> x.accountOf(value, 1));
        withinAccounts(value -> x -> x.accountOf(value, 0));
        within("accountOf's what", 0, 4, value -> x -> x.accountOf(0, value));
    }

    static void depthOfTheRoot() {
        Edges.says("Promise 13", "4: how deep it is (0 for the root)");
        BeltSums x = new BeltSums();
        Edges.full(x);
        for (int account = 0; account < 8; account++) {
            Edges.due("how deep " + account + " is", x.accountOf(account, 4), account);
        }
    }

    static void ofMassAtPlace() {
        Edges.says("Promise 14", "`place`: 0 to 11");
        within("massAt's place", 0, 11, value -> x -> x.massAt(value, 0));
        within("massAt's place of all kinds", 0, 11, value -> x -> x.massAt(value, -1));
        BeltSums x = Edges.running(9999, 7);
        x.tick(12);
        for (int place = 0; place < 12; place++) {
            Edges.due("massAt(" + place + ", 0)", x.massAt(place, 0), 7);
        }
    }

    static void ofMassAtKind() {
        Edges.says("Promise 14", "INVALID_ARGUMENT if an argument is out of range");
        within("massAt's kind", -1, 3, value -> x -> x.massAt(0, value));
        within("massAt's kind at the end", -1, 3, value -> x -> x.massAt(11, value));
        within("both", 0, 11, value -> x -> x.massAt(value, 4));
    }

    static void ofLotOf() {
        Edges.says("Promise 15", "`what`: 0: its kind; 1: its mass");
        within("lotOf's what", 0, 1, value -> x -> x.lotOf(0, value));
        within("lotOf's what, without such a lot", 0, 1, value -> x -> x.lotOf(6, value));
        for (Consumer<BeltSums> state : STATES) {
            Edges.refused("lotOf(-1, 0)", INVALID, state, x -> x.lotOf(-1, 0));
            Edges.refused("lotOf(MIN, 1)", INVALID, state, x -> x.lotOf(Integer.MIN_VALUE, 1));
        }
    }

    static void lotsThatAreNot() {
        Edges.says("Promise 15", "`index`: 0 for the first one, and so on");
        BeltSums x = new BeltSums();
        for (int lots = 0; lots < 6; lots++) {
            Edges.due("lotOf(" + lots + ", 0)", x.lotOf(lots, 0), Edges.NONE);
            x.lot(1, 3 + lots);
            Edges.due("lotOf(" + lots + ", 1)", x.lotOf(lots, 1), 3 + lots);
        }
        Edges.due("lotOf(6, 1)", x.lotOf(6, 1), Edges.NONE);
        x.run(1);
        x.gate(3);
        x.tick(1);
        Edges.due("the second one is the first one then", x.lotOf(0, 1), 4);
        Edges.due("lotOf(5, 1)", x.lotOf(5, 1), Edges.NONE);
    }

    static void ofBinOf() {
        Edges.says("Promise 16", "INVALID_ARGUMENT if an argument is out of range");
        withinBins(value -> x -> x.binOf(value, 4));
        withinBins(value -> x -> x.binOf(value, 0));
        within("binOf's what", 0, 6, value -> x -> x.binOf(0, value));
    }

    static void ofScale() {
        Edges.says("Promise 17", "INVALID_ARGUMENT if what is out of range");
        within("scale's what", 0, 6, value -> x -> x.scale(value));
    }

    static void ofCount() {
        Edges.says("Promise 18", "INVALID_ARGUMENT if what is out of range");
        within("count's first what", 0, 15, value -> x -> x.count(value));
        within("count's setting", 20, 22, value -> x -> x.count(value));
        within("count's kind", 30, 33, value -> x -> x.count(value));
        // So far below that 30 less is above again.
        Edges.refused("count's least what", INVALID, Edges::busy, x -> x.count(Integer.MIN_VALUE + 29));
        Edges.refused("count's least what but one", INVALID, Edges::busy, x -> x.count(Integer.MIN_VALUE + 30));
    }

    static void kindsCounted() {
        Edges.says("Promise 18", "30 plus a kind: the account to which it is booked");
        BeltSums x = new BeltSums();
        Edges.full(x);
        for (int kind = 0; kind < 4; kind++) {
            x.book(kind, 7 - kind);
        }
        for (int kind = 0; kind < 4; kind++) {
            Edges.due("count(" + (30 + kind) + ")", x.count(30 + kind), 7 - kind);
        }
    }

    static void fullnessCounted() {
        Edges.says("Promise 18", "13: accounts, the root too; 14: states in the history; 15: the length of the text");
        BeltSums x = new BeltSums();
        Edges.due("accounts at first", x.count(13), 1);
        Edges.due("states at first", x.count(14), 0);
        Edges.due("the length at first", x.count(15), 0);
        Edges.full(x);
        Edges.due("accounts", x.count(13), 8);
        Edges.due("states", x.count(14), 4);
        Edges.due("the length", x.count(15), 60);
    }

    static void ofType() {
        Edges.says("Promise 23", "INVALID_ARGUMENT if character is out of range");
        within("type's character", 32, 126, value -> x -> x.type(value));
    }

    static void ofFault() {
        Edges.says("Promise 25", "INVALID_ARGUMENT if what is out of range");
        within("fault's what", 0, 2, value -> x -> x.fault(value));
        within("fault's what of a text with a fault", 0, 2, RangeEdgeTest::withFault, value -> x -> x.fault(value));
    }

    private static void withFault(BeltSums x) {
        Edges.busy(x);
        Edges.write(x, "g201;");
    }
}
