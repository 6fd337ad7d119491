/** For each promise of the document: ordinary inputs, its edges, and wrong inputs. */
public final class PromiseTest {
    private static final int INVALID = BeltSums.INVALID_ARGUMENT;
    private static final int IMPOSSIBLE = BeltSums.NOT_POSSIBLE;
    private static final int LIMIT = BeltSums.LIMIT_REACHED;
    private static final int NONE = BeltSums.NOT_FOUND;
    private static final int MILLION = 1000000;
    private static final int MILLIARD = 1000000000;

    private static int passed;
    private static int failed;
    private static int promise;

    public static void main(String[] args) {
        newObject();
        lots();
        gates();
        running();
        feeding();
        binsUnderTheEnd();
        batches();
        batchesThatStop();
        ticks();
        zeros();
        corrections();
        correctionsAtTheEdges();
        settings();
        accounts();
        bookings();
        accountsAsked();
        massesAtPlaces();
        lotsAsked();
        binsAsked();
        scaleAsked();
        roundingOfTheScale();
        counts();
        plans();
        plansOfMass();
        errors();
        undoing();
        restoredScale();
        historiesOfFour();
        typing();
        clearing();
        faultsOfForm();
        faultsOfCalls();
        playing();
        System.out.println("PromiseTest: " + passed + " passed, " + failed + " failed");
        if (failed != 0) {
            System.exit(1);
        }
    }

    private static void due(String what, int got, int want) {
        if (got == want) {
            passed++;
        } else {
            failed++;
            System.out.println("promise " + promise + ": " + what + " answered " + got + ", due is " + want);
        }
    }

    /** A belt with one lot of the kind 0, one bin, no drift, and switched on. */
    private static BeltSums running(int mass, int width) {
        BeltSums x = new BeltSums();
        x.set(2, 0);
        x.lot(0, mass);
        x.bin();
        x.gate(width);
        x.run(1);
        return x;
    }

    private static void write(BeltSums x, String text) {
        x.clearText();
        for (int i = 0; i < text.length(); i++) {
            x.type(text.charAt(i));
        }
    }

    private static void newObject() {
        promise = 1;
        BeltSums x = new BeltSums();
        int[] counts = {0, 50, 0, 0, NONE, NONE, NONE, 0, 0, 0, 0, 0, 0, 1, 0, 0};
        for (int what = 0; what < counts.length; what++) {
            due("count(" + what + ")", x.count(what), counts[what]);
        }
        int[] scales = {MILLION, MILLION, MILLION, MILLIARD, MILLIARD, 1000, 0};
        for (int what = 0; what < scales.length; what++) {
            due("scale(" + what + ")", x.scale(what), scales[what]);
        }
        for (int place = 0; place < 12; place++) {
            due("massAt(" + place + ", -1)", x.massAt(place, -1), 0);
        }
        due("setting 0", x.count(20), 120);
        due("setting 1", x.count(21), 20);
        due("setting 2", x.count(22), 11);
        for (int kind = 0; kind < 4; kind++) {
            due("account of kind " + kind, x.count(30 + kind), 0);
        }
        due("error()", x.error(), MILLIARD);
        due("fault(0)", x.fault(0), NONE);
        due("undo()", x.undo(), IMPOSSIBLE);
    }

    private static void lots() {
        promise = 2;
        BeltSums x = new BeltSums();
        due("lot(-1, 5)", x.lot(-1, 5), INVALID);
        due("lot(4, 5)", x.lot(4, 5), INVALID);
        due("lot(0, 0)", x.lot(0, 0), INVALID);
        due("lot(0, 10000)", x.lot(0, 10000), INVALID);
        due("no lot came of it", x.count(0), 0);
        due("lot(0, 1)", x.lot(0, 1), 1);
        due("lot(3, 9999)", x.lot(3, 9999), 2);
        for (int lots = 3; lots <= 6; lots++) {
            due("lot " + lots, x.lot(1, 10), lots);
        }
        due("a seventh lot", x.lot(1, 10), LIMIT);
        due("a seventh lot of no kind", x.lot(4, 10), INVALID);
        due("put so far", x.count(10), 10040);
        due("in the hopper", x.count(9), 10040);
        due("the first lot", x.lotOf(0, 1), 1);
        due("behind it", x.lotOf(1, 1), 9999);
        x.run(1);
        x.tick(1);
        due("one is empty, and gone", x.lot(2, 7), 6);
        due("behind all others", x.lotOf(5, 1), 7);
    }

    private static void gates() {
        promise = 3;
        BeltSums x = new BeltSums();
        due("gate(200)", x.gate(200), 50);
        due("gate(0)", x.gate(0), 200);
        due("gate(-1)", x.gate(-1), INVALID);
        due("gate(201)", x.gate(201), INVALID);
        due("gate(7)", x.gate(7), 0);
        due("the gate", x.count(1), 7);
        x.lot(0, 10);
        x.run(1);
        x.tick(2);
        due("the first feed", x.massAt(1, 0), 7);
        due("the rest", x.massAt(0, 0), 3);
    }

    private static void running() {
        promise = 4;
        BeltSums x = new BeltSums();
        due("run(2)", x.run(2), INVALID);
        due("run(-1)", x.run(-1), INVALID);
        due("run(0)", x.run(0), 0);
        due("run(1)", x.run(1), 0);
        due("run(1) again", x.run(1), 1);
        due("switched on", x.count(2), 1);
        due("run(0) then", x.run(0), 1);
        x.bin();
        x.batch(10);
        due("run(1) in a batch", x.run(1), IMPOSSIBLE);
        due("run(0) in a batch", x.run(0), IMPOSSIBLE);
        due("run(2) in a batch", x.run(2), INVALID);
    }

    private static void feeding() {
        promise = 4;
        BeltSums x = new BeltSums();
        x.lot(3, 30);
        x.lot(1, 40);
        x.lot(2, 50);
        x.lot(0, 80);
        x.gate(200);
        x.run(1);
        x.set(0, 95);
        x.tick(1);
        due("the greatest kind is spilt first", x.massAt(0, 3), 0);
        due("then the next one, all of it", x.massAt(0, 2), 0);
        due("then the next one, in part", x.massAt(0, 1), 15);
        due("the least kind stays", x.massAt(0, 0), 80);
        due("spilt", x.count(12), 105);
        due("no lot is left", x.count(0), 0);
        x.set(0, 1);
        x.tick(1);
        due("only the place 0 spills", x.massAt(1, -1), 95);
        x.run(0);
        x.tick(5);
        due("a belt that stands carries nothing on", x.massAt(1, -1), 95);
        x.run(1);
        x.tick(10);
        due("at the end", x.massAt(11, -1), 95);
        due("nothing fell yet", x.count(8), 95);
        x.bin();
        x.tick(1);
        due("fallen by kind 0", x.binOf(0, 0), 80);
        due("fallen by kind 1", x.binOf(0, 1), 15);
        due("spilt at sides alone", x.count(12), 105);
    }

    private static void binsUnderTheEnd() {
        promise = 5;
        BeltSums x = new BeltSums();
        for (int bin = 0; bin < 7; bin++) {
            due("bin " + bin, x.bin(), bin);
        }
        x.batch(5);
        due("bin() in a batch", x.bin(), IMPOSSIBLE);
        x.tick(1);
        due("the eighth bin", x.bin(), 7);
        due("the present one", x.count(4), 7);
        due("a ninth bin", x.bin(), LIMIT);
        x.batch(5);
        due("a ninth bin in a batch", x.bin(), IMPOSSIBLE);
        BeltSums gram = running(1, 1);
        due("a batch of one gram", gram.batch(1), 0);
        gram.tick(13);
        due("one gram", gram.binOf(0, 4), 1);
        due("fills in one tick", gram.binOf(0, 6), 1);
        BeltSums y = running(20, 10);
        y.tick(13);
        y.bin();
        y.tick(1);
        due("the first bin has the first feed", y.binOf(0, 4), 10);
        due("the second bin has the second one", y.binOf(1, 4), 10);
        due("of its kind", y.binOf(1, 0), 10);
        due("the first bin has no more", y.binOf(0, 0), 10);
        due("all bins", y.count(11), 20);
    }

    private static void batches() {
        promise = 6;
        BeltSums x = new BeltSums();
        due("batch(5) without a bin", x.batch(5), IMPOSSIBLE);
        due("batch(0) without a bin", x.batch(0), INVALID);
        due("batch(10000)", x.batch(10000), INVALID);
        x = running(1000, 50);
        x.tick(3);
        due("batch(9999)", x.batch(9999), 150);
        due("switched off by it", x.count(2), 0);
        due("its mass", x.count(5), 9999);
        due("it feeds", x.count(6), 0);
        due("batch(5) in a batch", x.batch(5), IMPOSSIBLE);
        due("batch(0) in a batch", x.batch(0), INVALID);
        x.tick(1);
        due("it runs", x.massAt(0, -1), 50);
    }

    private static void batchesThatStop() {
        promise = 6;
        BeltSums x = running(1000, 50);
        x.tick(3);
        x.batch(200);
        x.tick(1);
        due("what lay on the belt counts: one more feed", x.count(8), 200);
        due("it feeds still", x.count(6), 0);
        x.tick(1);
        due("as much as the batch is enough", x.count(6), 1);
        due("nothing is fed then", x.massAt(0, -1), 0);
        x.tick(10);
        due("it is not done while mass lies on the belt", x.count(5), 200);
        x.tick(1);
        due("done", x.count(5), NONE);
        due("not switched on again", x.count(2), 0);
        due("the bin", x.binOf(0, 4), 200);
        x.batch(60);
        x.tick(1);
        due("what the bin had before does not count", x.massAt(0, -1), 50);
        x.tick(13);
        due("what came into the bin since counts", x.binOf(0, 4), 300);
        due("it is done", x.count(5), NONE);
        BeltSums y = running(30, 50);
        y.batch(500);
        y.tick(1);
        due("the last of the lots", y.count(0), 0);
        due("no lot, but not looked at yet", y.count(6), 0);
        y.tick(1);
        due("no lot any more", y.count(6), 1);
        y.lot(0, 30);
        y.tick(1);
        due("what has stopped feeding does not feed again", y.count(0), 1);
    }

    private static void ticks() {
        promise = 7;
        BeltSums x = running(100, 50);
        due("tick(0)", x.tick(0), INVALID);
        due("tick(201)", x.tick(201), INVALID);
        due("no time went by", x.count(7), 0);
        due("tick(12)", x.tick(12), 0);
        due("tick(1)", x.tick(1), 50);
        due("tick(187)", x.tick(187), 50);
        due("the time", x.count(7), 200);
        BeltSums y = new BeltSums();
        y.lot(2, 40);
        y.run(1);
        due("without a bin it falls all the same", y.tick(20), 40);
        due("and is spilt", y.count(12), 40);
        BeltSums z = new BeltSums();
        for (int i = 0; i < 44; i++) {
            z.tick(200);
        }
        due("199 more", z.tick(199), 0);
        due("2 beyond the last time", z.tick(2), LIMIT);
        due("tick(201) near the last time", z.tick(201), INVALID);
        due("the last one", z.tick(1), 0);
        due("the last time", z.count(7), 9000);
        due("no more", z.tick(1), LIMIT);
        BeltSums w = new BeltSums();
        w.set(1, 7);
        w.set(2, -9);
        w.tick(6);
        due("no drift yet", w.scale(1), MILLION);
        w.tick(1);
        due("the drift", w.scale(1), MILLION - 9);
        w.set(1, 99);
        w.tick(91);
        due("it is the time that counts", w.scale(1), MILLION - 9);
        w.tick(1);
        due("at 99", w.scale(1), MILLION - 18);
    }

    private static void zeros() {
        promise = 8;
        BeltSums x = running(40, 40);
        due("zero() on empty places", x.zero(), MILLION);
        x.tick(4);
        due("the mass is not seen at place 3", x.zero(), MILLION);
        x.tick(1);
        due("the mass at place 4", x.zero(), IMPOSSIBLE);
        x.run(0);
        x.tick(3);
        due("after 3 ticks", x.zero(), IMPOSSIBLE);
        x.set(1, 1);
        x.set(2, 5);
        x.tick(1);
        due("after 4 ticks", x.zero(), MILLION);
        due("the mass and the drift", x.scale(2), MILLION + 45);
        due("the reading then", x.scale(0), MILLION);
        x.run(1);
        x.set(2, 0);
        due("switched on, but it has stood", x.zero(), MILLION + 45);
        x.tick(3);
        due("the mass at place 7", x.zero(), IMPOSSIBLE);
        x.tick(1);
        due("the mass at place 8", x.zero(), MILLION + 45);
        due("the drift alone", x.scale(2), MILLION + 5);
        BeltSums y = new BeltSums();
        y.set(1, 1);
        y.set(2, -4);
        y.tick(1);
        y.zero();
        due("a zero below 0", y.zero(), MILLION - 4);
    }

    private static void corrections() {
        promise = 9;
        BeltSums x = running(200, 100);
        due("correct(1)", x.correct(1), INVALID);
        due("correct(-1)", x.correct(-1), INVALID);
        due("growth of 0", x.correct(0), IMPOSSIBLE);
        x.tick(13);
        due("100 of 200", x.correct(0), 500);
        due("the factor", x.scale(5), 500);
        due("the told total", x.scale(4), MILLIARD + 100);
        x.tick(1);
        due("200 of 200", x.correct(0), 1000);
        BeltSums y = running(204, 100);
        y.tick(1);
        y.gate(104);
        y.tick(12);
        due("100 of 204", y.correct(0), IMPOSSIBLE);
        due("the factor as before", y.scale(5), 1000);
        BeltSums z = running(100, 100);
        z.tick(6);
        z.bin();
        z.tick(20);
        due("100 of 50", z.correct(1), 2000);
        due("an earlier bin, 0 of 50", z.correct(0), IMPOSSIBLE);
        due("the told total doubled", z.scale(4), MILLIARD + 200);
        BeltSums w = running(104, 4);
        w.tick(1);
        w.gate(0);
        w.tick(1);
        w.gate(100);
        w.tick(6);
        w.bin();
        w.tick(20);
        due("the growth", w.binOf(1, 5), MILLIARD + 50);
        due("104 of 50", w.correct(1), IMPOSSIBLE);
        BeltSums v = running(100, 100);
        v.set(1, 1);
        v.set(2, -9);
        v.tick(40);
        due("a growth below 0", v.correct(0), IMPOSSIBLE);
    }

    private static void correctionsAtTheEdges() {
        promise = 9;
        BeltSums x = running(501, 125);
        x.set(0, 200);
        x.tick(3);
        x.gate(126);
        x.tick(11);
        due("the mass below", x.binOf(0, 4), 250);
        due("the growth below", x.binOf(0, 5), MILLIARD + 501);
        due("a factor of 499", x.correct(0), IMPOSSIBLE);
        BeltSums y = running(1999, 200);
        y.set(0, 200);
        y.tick(5);
        y.gate(0);
        y.tick(7);
        y.bin();
        y.gate(200);
        y.tick(30);
        due("the mass above", y.binOf(1, 4), 1999);
        due("the growth above", y.binOf(1, 5), MILLIARD + 999);
        due("a factor of 2001", y.correct(1), IMPOSSIBLE);
        BeltSums z = running(1, 1);
        z.tick(40);
        due("a growth of 1", z.correct(0), 1000);
    }

    private static void settings() {
        promise = 10;
        int[] first = {120, 20, 1};
        int[] least = {1, 1, -9};
        int[] most = {500, 99, 9};
        BeltSums x = new BeltSums();
        for (int what = 0; what < 3; what++) {
            due("below", x.set(what, least[what] - 1), INVALID);
            due("above", x.set(what, most[what] + 1), INVALID);
            due("the most", x.set(what, most[what]), first[what]);
            due("the least", x.set(what, least[what]), most[what]);
            due("what it was", x.set(what, first[what]), least[what]);
        }
        due("set(-1, 1)", x.set(-1, 1), INVALID);
        due("set(3, 1)", x.set(3, 1), INVALID);
        x.set(0, 60);
        x.gate(100);
        x.lot(0, 100);
        x.run(1);
        x.tick(1);
        due("the most that a place carries", x.massAt(0, -1), 60);
        due("the rest is spilt", x.count(12), 40);
    }

    private static void accounts() {
        promise = 11;
        BeltSums x = new BeltSums();
        due("account(-1)", x.account(-1), INVALID);
        due("account(1)", x.account(1), INVALID);
        for (int number = 1; number <= 7; number++) {
            due("account " + number, x.account(number - 1), number);
        }
        due("an eighth one", x.account(0), LIMIT);
        due("an eighth one within none", x.account(8), INVALID);
        due("accounts", x.count(13), 8);
    }

    private static void bookings() {
        promise = 12;
        BeltSums x = running(100, 50);
        x.account(0);
        due("book(4, 0)", x.book(4, 0), INVALID);
        due("book(-1, 0)", x.book(-1, 0), INVALID);
        due("book(0, 2)", x.book(0, 2), INVALID);
        due("book(0, -1)", x.book(0, -1), INVALID);
        x.tick(13);
        due("book(0, 1)", x.book(0, 1), 0);
        due("kind 0", x.count(30), 1);
        due("kind 1", x.count(31), 0);
        x.tick(1);
        due("before", x.accountOf(0, 1), 50);
        due("from now on", x.accountOf(1, 1), 50);
        due("book(0, 0)", x.book(0, 0), 1);
        BeltSums y = new BeltSums();
        y.lot(0, 50);
        y.run(1);
        y.tick(20);
        due("what is spilt is not booked", y.accountOf(0, 2), 0);
    }

    private static void accountsAsked() {
        promise = 13;
        BeltSums x = new BeltSums();
        x.set(2, 0);
        x.account(0);
        x.account(0);
        x.account(1);
        x.account(3);
        x.account(2);
        int[] kinds = {1, 3, 4, 5};
        for (int kind = 0; kind < 4; kind++) {
            x.book(kind, kinds[kind]);
            x.lot(kind, 10 * (kind + 1));
        }
        x.bin();
        x.gate(100);
        x.run(1);
        x.tick(13);
        int[][] due = {{NONE, 0, 100, 5, 0}, {0, 10, 60, 2, 1}, {0, 0, 40, 1, 1}, {1, 20, 50, 1, 2}, {3, 30, 30, 0, 3},
            {2, 40, 40, 0, 2}};
        for (int account = 0; account < due.length; account++) {
            for (int what = 0; what < 5; what++) {
                due("accountOf(" + account + ", " + what + ")", x.accountOf(account, what), due[account][what]);
            }
        }
        due("accountOf(6, 0)", x.accountOf(6, 0), INVALID);
        due("accountOf(-1, 0)", x.accountOf(-1, 0), INVALID);
        due("accountOf(0, -1)", x.accountOf(0, -1), INVALID);
        due("accountOf(0, 5)", x.accountOf(0, 5), INVALID);
    }

    private static void massesAtPlaces() {
        promise = 14;
        BeltSums x = new BeltSums();
        x.lot(1, 30);
        x.lot(2, 50);
        x.run(1);
        x.tick(12);
        due("massAt(11, 1)", x.massAt(11, 1), 30);
        due("massAt(11, 2)", x.massAt(11, 2), 20);
        due("massAt(11, -1)", x.massAt(11, -1), 50);
        due("massAt(10, 2)", x.massAt(10, 2), 30);
        due("massAt(0, 0)", x.massAt(0, 0), 0);
        due("massAt(12, 0)", x.massAt(12, 0), INVALID);
        due("massAt(-1, 0)", x.massAt(-1, 0), INVALID);
        due("massAt(0, 4)", x.massAt(0, 4), INVALID);
        due("massAt(0, -2)", x.massAt(0, -2), INVALID);
    }

    private static void lotsAsked() {
        promise = 15;
        BeltSums x = new BeltSums();
        due("lotOf(0, 0)", x.lotOf(0, 0), NONE);
        x.lot(2, 70);
        x.lot(1, 90);
        due("the first one's kind", x.lotOf(0, 0), 2);
        due("the first one's mass", x.lotOf(0, 1), 70);
        due("the next one's kind", x.lotOf(1, 0), 1);
        due("the next one's mass", x.lotOf(1, 1), 90);
        due("lotOf(2, 0)", x.lotOf(2, 0), NONE);
        due("lotOf(9, 1)", x.lotOf(9, 1), NONE);
        due("lotOf(9, 2)", x.lotOf(9, 2), INVALID);
        due("lotOf(0, -1)", x.lotOf(0, -1), INVALID);
        due("lotOf(-1, 0)", x.lotOf(-1, 0), INVALID);
        x.run(1);
        x.tick(1);
        due("less", x.lotOf(0, 1), 20);
        x.tick(1);
        due("the first one is gone", x.lotOf(0, 0), 1);
        due("what is left of the next one", x.lotOf(0, 1), 60);
        due("what is left of all", x.count(9), 60);
    }

    private static void binsAsked() {
        promise = 16;
        BeltSums x = new BeltSums();
        due("binOf(0, 0)", x.binOf(0, 0), INVALID);
        x = running(60, 20);
        x.lot(3, 20);
        x.tick(14);
        x.gate(0);
        x.tick(20);
        int[] due = {60, 0, 0, 20, 80, MILLIARD + 80, 4};
        for (int what = 0; what < due.length; what++) {
            due("binOf(0, " + what + ")", x.binOf(0, what), due[what]);
        }
        due("binOf(0, 7)", x.binOf(0, 7), INVALID);
        due("binOf(0, -1)", x.binOf(0, -1), INVALID);
        due("binOf(1, 0)", x.binOf(1, 0), INVALID);
        due("binOf(-1, 0)", x.binOf(-1, 0), INVALID);
        BeltSums y = new BeltSums();
        y.set(1, 1);
        y.set(2, -8);
        y.tick(1);
        y.set(2, 0);
        y.run(1);
        y.tick(1);
        y.bin();
        y.tick(2);
        y.bin();
        y.tick(4);
        due("the growth below 0 of an earlier bin", y.binOf(0, 5), MILLIARD - 4);
        due("the growth below 0 of the present bin", y.binOf(1, 5), MILLIARD - 8);
        due("the sum, also without a bin", y.scale(3), MILLIARD - 14);
    }

    private static void scaleAsked() {
        promise = 17;
        BeltSums x = new BeltSums();
        due("scale(-1)", x.scale(-1), INVALID);
        due("scale(7)", x.scale(7), INVALID);
        x.set(1, 2);
        x.set(2, 3);
        x.tick(5);
        due("the ticks for which it has stood", x.scale(6), 5);
        due("the drift", x.scale(1), MILLION + 6);
        due("the reading of a belt that stands", x.scale(0), MILLION + 6);
        due("the sum of a belt that stands", x.scale(3), MILLIARD);
        x.zero();
        due("the zero", x.scale(2), MILLION + 6);
        due("the reading less the zero", x.scale(0), MILLION);
        x.set(2, 0);
        x.lot(0, 50);
        x.run(1);
        x.tick(4);
        due("it ran", x.scale(6), 0);
        due("not seen at place 3", x.scale(0), MILLION);
        x.tick(1);
        due("seen at place 4", x.scale(0), MILLION + 50);
        x.tick(3);
        due("seen at place 7", x.scale(0), MILLION + 50);
        x.tick(1);
        due("not seen at place 8", x.scale(0), MILLION);
        due("the sum", x.scale(3), MILLIARD + 50);
        x.run(0);
        x.tick(2);
        due("it stands again", x.scale(6), 2);
    }

    private static void roundingOfTheScale() {
        promise = 17;
        BeltSums x = running(3, 3);
        int[] sums = {0, 1, 2, 3, 3};
        x.tick(4);
        for (int i = 0; i < sums.length; i++) {
            x.tick(1);
            due("the sum with a rest", x.scale(3), MILLIARD + sums[i]);
        }
        BeltSums y = new BeltSums();
        y.set(1, 1);
        y.set(2, -3);
        y.tick(1);
        y.set(2, 0);
        y.run(1);
        for (int i = 0; i < 4; i++) {
            y.tick(1);
            due("the sum with a rest below 0", y.scale(3), MILLIARD - sums[i]);
        }
        BeltSums z = running(200, 100);
        z.tick(13);
        z.correct(0);
        z.set(1, 1);
        z.set(2, -9);
        z.tick(1);
        z.set(2, 0);
        z.tick(92);
        due("an odd sum below 0", z.scale(3), MILLIARD - 9);
        due("half of it, towards 0", z.scale(4), MILLIARD - 4);
        BeltSums w = new BeltSums();
        w.set(1, 1);
        w.set(2, 9);
        w.run(1);
        for (int i = 0; i < 45; i++) {
            w.tick(200);
        }
        due("the greatest sum", w.scale(3), MILLIARD + 91135125);
        due("told exactly", w.scale(4), MILLIARD + 91135125);
    }

    private static void counts() {
        promise = 18;
        int[] none = {-1, 16, 19, 23, 29, 34, Integer.MAX_VALUE, Integer.MIN_VALUE};
        BeltSums x = running(1000, 150);
        for (int what : none) {
            due("count(" + what + ")", x.count(what), INVALID);
        }
        x.lot(3, 200);
        x.account(0);
        x.book(3, 1);
        x.set(1, 9);
        x.set(2, -9);
        write(x, "t1");
        x.tick(14);
        x.bin();
        x.batch(77);
        int[] due = {0, 150, 0, 2, 1, 77, 0, 14, 720, 0, 1200, 240, 240, 2, 4, 2};
        for (int what = 0; what < due.length; what++) {
            due("count(" + what + ")", x.count(what), due[what]);
        }
        due("count(20)", x.count(20), 120);
        due("count(21)", x.count(21), 9);
        due("count(22)", x.count(22), 1);
        due("count(33)", x.count(33), 1);
        due("count(32)", x.count(32), 0);
        x.tick(1);
        due("count(6)", x.count(6), 1);
    }

    private static void plans() {
        promise = 19;
        BeltSums x = new BeltSums();
        due("without a batch", x.batchIn(), IMPOSSIBLE);
        x.bin();
        x.batch(10);
        due("without lots", x.batchIn(), 1);
        x.lot(1, 9999);
        due("with a lot", x.batchIn(), 13);
        due("foretelling changes nothing", x.count(7), 0);
        x.gate(0);
        due("without feed", x.batchIn(), NONE);
        x.gate(1);
        x.tick(3);
        due("gram by gram", x.batchIn(), 19);
        x.tick(18);
        due("one more tick", x.batchIn(), 1);
        x.tick(1);
        due("it is done", x.batchIn(), IMPOSSIBLE);
        BeltSums y = new BeltSums();
        y.bin();
        y.lot(0, 9999);
        y.gate(1);
        y.batch(1988);
        due("done in 2000 ticks", y.batchIn(), 2000);
        y.tick(200);
        due("done in 1800 ticks", y.batchIn(), 1800);
        BeltSums z = new BeltSums();
        z.bin();
        z.lot(0, 9999);
        z.gate(1);
        z.batch(1989);
        due("done in 2001 ticks", z.batchIn(), NONE);
        z.tick(1);
        due("a tick later", z.batchIn(), 2000);
    }

    private static void plansOfMass() {
        promise = 20;
        BeltSums x = running(1000, 50);
        due("without a batch", x.batchOut(), IMPOSSIBLE);
        x.tick(14);
        x.batch(100);
        due("what the bin has, and what lies on the belt", x.batchOut(), 700);
        x.tick(5);
        due("the same in its midst", x.batchOut(), 700);
        x.tick(7);
        due("it is done", x.batchOut(), IMPOSSIBLE);
        x.batch(130);
        due("fed up to more than the batch", x.batchOut(), 850);
        x.gate(0);
        due("without feed", x.batchOut(), NONE);
        x.gate(40);
        x.set(0, 30);
        due("with spills at the sides", x.batchOut(), 850);
        due("foretelling spills nothing", x.count(12), 0);
        BeltSums y = new BeltSums();
        y.bin();
        y.lot(0, 9999);
        y.gate(1);
        y.batch(1989);
        due("done in 2001 ticks", y.batchOut(), NONE);
        y.tick(1);
        due("done in 2000 ticks", y.batchOut(), 1989);
    }

    private static void errors() {
        promise = 21;
        BeltSums x = running(100, 100);
        x.tick(8);
        due("weighed, not fallen", x.error(), MILLIARD + 100);
        x.tick(5);
        due("fallen", x.error(), MILLIARD);
        BeltSums y = new BeltSums();
        y.set(1, 1);
        y.set(2, -2);
        y.tick(2);
        y.set(2, 0);
        y.lot(0, 50);
        y.lot(0, 50);
        y.gate(100);
        y.set(0, 60);
        y.run(1);
        y.tick(20);
        due("the told total", y.scale(4), MILLIARD + 40);
        due("what is spilt at the end counts, at the sides not", y.error(), MILLIARD - 20);
        BeltSums z = running(200, 100);
        z.tick(13);
        z.correct(0);
        due("by the told total, not the sum", z.error(), MILLIARD);
    }

    private static void undoing() {
        promise = 22;
        BeltSums x = new BeltSums();
        x.set(0, 90);
        due("undo()", x.undo(), 0);
        due("the setting", x.count(20), 120);
        due("nothing to undo", x.undo(), IMPOSSIBLE);
        String[] names = {"lot", "gate", "run", "bin", "batch", "tick", "zero", "correct", "set", "account", "book", "play"};
        x = running(500, 100);
        x.lot(2, 300);
        x.tick(16);
        for (String name : names) {
            int[] before = everything(x);
            int answer = change(x, name);
            due(name + " is possible", answer > -1000000 ? 1 : 0, 1);
            due(name + " is a change", x.undo(), 3);
            int[] after = everything(x);
            dueRows(name, after, before);
            change(x, name);
        }
        BeltSums y = new BeltSums();
        y.gate(50);
        due("a change that leaves all as it was", y.count(14), 1);
        y.gate(999);
        y.undo();
        due("an error is no change", y.count(14), 0);
        y.type('b');
        y.gate(9);
        y.type(';');
        y.undo();
        due("the text is not restored", y.count(15), 2);
        y.clearText();
        due("nor is its emptying a change", y.undo(), IMPOSSIBLE);
    }

    private static int change(BeltSums x, String name) {
        switch (name) {
            case "lot": return x.lot(1, 77);
            case "gate": return x.gate(33);
            case "run": return x.run(0);
            case "bin": return x.bin();
            case "batch": return x.batch(650);
            case "tick": return x.tick(30);
            case "zero": return x.zero();
            case "correct": return x.correct(0);
            case "set": return x.set(2, 4);
            case "account": return x.account(0);
            case "book": return x.book(2, 1);
            default:
                write(x, "l3,40;g20;b;s;t200;");
                return x.play();
        }
    }

    /** What an object tells of itself, but for its history and its text. */
    private static int[] everything(BeltSums x) {
        int[] all = new int[200];
        int row = 0;
        for (int what = 0; what < 34; what++) {
            all[row++] = what == 14 || what == 15 ? 0 : x.count(what);
        }
        for (int place = 0; place < 12; place++) {
            for (int kind = 0; kind < 4; kind++) {
                all[row++] = x.massAt(place, kind);
            }
        }
        for (int lot = 0; lot < 6; lot++) {
            all[row++] = x.lotOf(lot, 0);
            all[row++] = x.lotOf(lot, 1);
        }
        for (int bin = 0; bin < 3; bin++) {
            for (int what = 0; what < 7; what++) {
                all[row++] = x.binOf(bin, what);
            }
        }
        for (int what = 0; what < 7; what++) {
            all[row++] = x.scale(what);
        }
        for (int account = 0; account < 3; account++) {
            for (int what = 0; what < 5; what++) {
                all[row++] = x.accountOf(account, what);
            }
        }
        all[row++] = x.batchIn();
        all[row++] = x.batchOut();
        all[row] = x.error();
        return all;
    }

    private static void restoredScale() {
        promise = 22;
        BeltSums x = new BeltSums();
        x.set(0, 2);
        x.set(1, 1);
        x.lot(3, 30);
        x.gate(5);
        x.run(1);
        x.tick(1);
        int[] before = everything(x);
        x.tick(15);
        int[] later = everything(x);
        due("zero() is possible", x.zero(), MILLION);
        due("zero() is undone", x.undo(), 3);
        dueRows("zero()", everything(x), later);
        due("tick() is undone", x.undo(), 2);
        dueRows("tick()", everything(x), before);
        x.tick(15);
        dueRows("tick() again", everything(x), later);
        write(x, "t7;x;t5;z;");
        due("play() is possible", x.play(), 4);
        x.undo();
        dueRows("play()", everything(x), later);
        BeltSums y = new BeltSums();
        y.gate(7);
        y.set(0, 9);
        y.undo();
        due("set() keeps the gate that was", y.count(1), 7);
        y.account(0);
        y.book(2, 1);
        y.undo();
        due("book() keeps the account that was", y.count(13), 2);
        y.run(1);
        y.zero();
        y.undo();
        due("zero() keeps the switch that was", y.count(2), 1);
        BeltSums z = running(100, 100);
        z.tick(20);
        z.gate(3);
        z.correct(0);
        z.undo();
        due("correct() keeps the gate that was", z.count(1), 3);
    }

    private static void dueRows(String what, int[] got, int[] want) {
        for (int i = 0; i < want.length; i++) {
            due("undo of " + what + " in row " + i, got[i], want[i]);
        }
    }

    private static void historiesOfFour() {
        promise = 22;
        BeltSums x = new BeltSums();
        for (int width = 1; width <= 6; width++) {
            x.gate(width);
            due("states", x.count(14), Math.min(width, 4));
        }
        for (int width = 5; width >= 2; width--) {
            due("undo()", x.undo(), width - 2);
            due("the gate", x.count(1), width);
        }
        due("the oldest ones were dropped", x.undo(), IMPOSSIBLE);
        x.gate(11);
        x.gate(12);
        x.undo();
        x.gate(13);
        x.undo();
        due("what was undone is no state", x.undo(), 0);
        due("the gate", x.count(1), 2);
        BeltSums y = new BeltSums();
        y.lot(0, 3);
        y.undo();
        y.lot(1, 4);
        due("a lot after undo", y.lotOf(0, 1), 4);
        due("the rest goes on", y.count(10), 4);
        BeltSums z = running(3, 3);
        z.tick(5);
        z.tick(1);
        z.undo();
        z.tick(1);
        due("the rest of the scale is restored", z.scale(3), MILLIARD + 1);
    }

    private static void typing() {
        promise = 23;
        BeltSums x = new BeltSums();
        due("type(31)", x.type(31), INVALID);
        due("type(127)", x.type(127), INVALID);
        due("type(32)", x.type(32), 1);
        due("type(126)", x.type(126), 2);
        for (int length = 3; length <= 60; length++) {
            due("type " + length, x.type('b'), length);
        }
        due("a character more", x.type('b'), LIMIT);
        due("a wrong character more", x.type(9), INVALID);
        due("the length", x.count(15), 60);
        due("typing is no change", x.count(14), 0);
    }

    private static void clearing() {
        promise = 24;
        BeltSums x = new BeltSums();
        due("an empty text", x.clearText(), 0);
        write(x, "b;b");
        due("clearText()", x.clearText(), 3);
        due("the length", x.count(15), 0);
        due("no fault is left", x.fault(0), NONE);
        x.type('b');
        due("type() then", x.count(15), 1);
        x.type(';');
        due("the text anew", x.play(), 1);
    }

    private static void fault(String text, int position, int reason, int cause) {
        BeltSums x = new BeltSums();
        write(x, text);
        due("position in " + text, x.fault(0), position);
        due("reason in " + text, x.fault(1), reason);
        due("cause in " + text, x.fault(2), cause);
        due("play() of " + text, x.play(), reason == NONE ? commands(text) : IMPOSSIBLE);
    }

    private static int commands(String text) {
        int many = 0;
        for (int i = 0; i < text.length(); i++) {
            many += text.charAt(i) == ';' ? 1 : 0;
        }
        return many;
    }

    private static void faultsOfForm() {
        promise = 25;
        BeltSums x = new BeltSums();
        due("fault(-1)", x.fault(-1), INVALID);
        due("fault(3)", x.fault(3), INVALID);
        due("an empty text", x.fault(1), NONE);
        String[] wrong = {"b", ";", "q;", "B;", " b;", "b ;", "b1;", "s0;", "x,;", "z5;", "g;", "g", "g5", "g5,", "g5,5;", "g-1;",
            "g00005;", "g12345;", "gg;", "l;", "l1;", "l1", "l1,", "l1,;", "l,5;", "l1;5;", "l1,5", "l1,5,", "l1,5,6;",
            "l00001,5;", "l1,00005;", "l1 ,5;", "m;", "m-5;", "c;", "c0", "t;", "t1", "t1;;", "t+1;", "bb;", "t:;", "t/;", "t1/;", "t1:;"};
        for (String text : wrong) {
            fault(text, text.equals("t1;;") ? 3 : 0, 1, NONE);
            fault("g0;t1;" + text, text.equals("t1;;") ? 9 : 6, 1, NONE);
        }
        String[] right = {"b;", "s;", "x;", "z;", "g0;", "g0200;", "l0,1;", "l0003,9999;", "l3,0001;", "t1;", "t0200;", "b;m9999;",
            "l0,80;b;s;t13;c0;", "l0,80;b;s;t13;c0000;"};
        for (String text : right) {
            fault(text, NONE, NONE, NONE);
        }
    }

    private static void faultsOfCalls() {
        promise = 25;
        fault("l4,5;", 0, 2, INVALID);
        fault("l0,0;", 0, 2, INVALID);
        fault("l9999,9999;", 0, 2, INVALID);
        fault("g201;", 0, 2, INVALID);
        fault("m0;", 0, 2, INVALID);
        fault("b;m0;", 2, 2, INVALID);
        fault("m5;", 0, 2, IMPOSSIBLE);
        fault("c0;", 0, 2, INVALID);
        fault("b;c0;", 2, 2, IMPOSSIBLE);
        fault("t0;", 0, 2, INVALID);
        fault("t201;", 0, 2, INVALID);
        fault("b;m5;s;", 5, 2, IMPOSSIBLE);
        fault("b;m5;x;", 5, 2, IMPOSSIBLE);
        fault("b;m5;b;", 5, 2, IMPOSSIBLE);
        fault("b;m5;m5;", 5, 2, IMPOSSIBLE);
        fault("b;m5;t1;s;", NONE, NONE, NONE);
        fault("l0,9;s;t5;z;", 10, 2, IMPOSSIBLE);
        fault("l0,9;s;t5;x;t4;z;", NONE, NONE, NONE);
        fault("b;b;b;b;b;b;b;b;b;", 16, 2, LIMIT);
        fault("l0,1;l0,1;l0,1;l0,1;l0,1;l0,1;l0,1;", 30, 2, LIMIT);
        fault("c0;q;", 0, 2, INVALID);
        fault("q;c0;", 0, 1, NONE);
        BeltSums x = new BeltSums();
        for (int i = 0; i < 44; i++) {
            x.tick(200);
        }
        write(x, "t150;t50;t1;");
        due("the time in texts", x.fault(2), LIMIT);
        due("its position", x.fault(0), 9);
        due("nothing was done", x.count(7), 8800);
        due("and nothing recorded", x.count(14), 4);
        x.undo();
        due("the fault is that of the present state", x.fault(0), NONE);
        BeltSums y = new BeltSums();
        write(y, "b;c0");
        due("the form behind what can be done", y.fault(0), 2);
        y.type(';');
        due("the cause", y.fault(2), IMPOSSIBLE);
    }

    private static void playing() {
        promise = 26;
        BeltSums x = new BeltSums();
        due("an empty text", x.play(), 0);
        due("one change", x.count(14), 1);
        write(x, "l0,90;g30;b;s;t15;x;t2;");
        due("seven commands", x.play(), 7);
        due("one change more", x.count(14), 2);
        due("fallen", x.count(11), 90);
        due("the time", x.count(7), 17);
        due("switched off", x.count(2), 0);
        due("the text stays", x.count(15), 23);
        due("once more", x.play(), 7);
        due("fallen into two bins", x.count(11), 180);
        due("undo()", x.undo(), 2);
        due("undone at once", x.count(11), 90);
        write(x, "g9;t5;g201;");
        due("a fault", x.play(), IMPOSSIBLE);
        due("nothing was done", x.count(1), 30);
        due("and no time went by", x.count(7), 17);
        due("and nothing recorded", x.count(14), 2);
        write(x, "g9;t5;m12;t30;z;");
        due("a batch in a text", x.play(), 5);
        due("its end", x.count(5), NONE);
        write(x, "m9;t1");
        due("an open end", x.play(), IMPOSSIBLE);
        BeltSums y = running(200, 100);
        write(y, "t14;c0;");
        due("a correction", y.play(), 2);
        due("its factor", y.scale(5), 1000);
        write(y, "g000;t0001;z;");
        due("zeros ahead", y.play(), 3);
    }
}
