/** A test for each sentence of the document's terms that names a boundary case. */
public final class TermsEdgeTest {
    private static final int INVALID = Edges.INVALID;
    private static final int IMPOSSIBLE = Edges.IMPOSSIBLE;
    private static final int LIMIT = Edges.LIMIT;
    private static final int NONE = Edges.NONE;
    private static final int MILLION = Edges.MILLION;
    private static final int MILLIARD = Edges.MILLIARD;

    public static void main(String[] args) throws ReflectiveOperationException {
        Edges.runTests(TermsEdgeTest.class);
    }

    private static void due(String what, int got, int want) {
        Edges.due(what, got, want);
    }

    // ---- what it is

    static void useOfFiveHundredTwelveCalls() {
        Edges.says("What it is", "An object is used for at most 512 calls after it has been made");
        BeltSums x = new BeltSums();
        x.bin();
        x.lot(0, 9999);
        x.gate(1);
        x.batch(1988);
        for (int call = 5; call <= 511; call++) {
            due("call " + call, x.batchIn(), 2000);
        }
        due("call 512", x.batchOut(), 1988);
        BeltSums y = new BeltSums();
        for (int call = 1; call <= 511; call++) {
            y.gate(call % 2);
        }
        due("call 512, of a change", y.gate(5), 1);
    }

    static void divisionsAtZero() {
        Edges.says("Terms", "divisions are rounded down where the divided number is at least 0, and towards 0 otherwise");
        due("a half of 7", withHalfFactor(7).scale(4), MILLIARD + 3);
        due("a half of 1", withHalfFactor(1).scale(4), MILLIARD);
        due("a half of -1", withHalfFactor(-1).scale(4), MILLIARD);
        due("a half of -2", withHalfFactor(-2).scale(4), MILLIARD - 1);
        due("a half of -7", withHalfFactor(-7).scale(4), MILLIARD - 3);
        BeltSums x = Edges.running(3, 1);
        x.set(0, 1);
        x.tick(14);
        due("1000 times 2 by 3", x.correct(0), 666);
    }

    /** The factor is 500, and the sum is this: from -7 to 11. */
    private static BeltSums withHalfFactor(int sum) {
        BeltSums x = Edges.running(2, 1);
        x.tick(13);
        due("1 of 2", x.correct(0), 500);
        x.set(1, 1);
        x.set(2, sum - 2);
        x.tick(1);
        x.set(2, 0);
        x.tick(3);
        due("the sum", x.scale(3), MILLIARD + sum);
        return x;
    }

    static void timeAtFirst() {
        Edges.says("Terms", "time in ticks, 0 at first");
        BeltSums x = new BeltSums();
        due("the time", x.count(7), 0);
        x.tick(1);
        due("a tick later", x.count(7), 1);
    }

    // ---- the belt

    static void placesFromFirstToLast() {
        Edges.says("The belt", "The belt has 12 places, numbered from 0 (under the hopper) to 11 (the end)");
        BeltSums x = Edges.running(5, 5);
        for (int place = 0; place < 12; place++) {
            due("tick(1)", x.tick(1), 0);
            due("the mass at place " + place, x.massAt(place, 0), 5);
            due("on the belt", x.count(8), 5);
        }
        due("the tick behind the place 11", x.tick(1), 5);
        due("on the belt", x.count(8), 0);
        due("massAt(12, 0)", x.massAt(12, 0), INVALID);
    }

    static void placesAtFirst() {
        Edges.says("The belt", "each carries some mass (0 at first)");
        BeltSums x = new BeltSums();
        for (int place = 0; place < 12; place++) {
            for (int kind = -1; kind < 4; kind++) {
                due("massAt(" + place + ", " + kind + ")", x.massAt(place, kind), 0);
            }
        }
    }

    static void lotsAtMost() {
        Edges.says("The belt", "There are at most 6 lots in the hopper, one behind the other, each of a kind (0 to 3) and a mass.");
        BeltSums x = new BeltSums();
        for (int lots = 1; lots <= 6; lots++) {
            due("lot " + lots, x.lot(lots % 4, lots * 50), lots);
        }
        due("a seventh one", x.lot(0, 1), LIMIT);
        due("lots", x.count(0), 6);
        for (int lot = 0; lot < 6; lot++) {
            due("the kind", x.lotOf(lot, 0), (lot + 1) % 4);
            due("the mass", x.lotOf(lot, 1), (lot + 1) * 50);
        }
        x.run(1);
        x.tick(1);
        due("one is gone", x.count(0), 5);
        due("a sixth one again", x.lot(3, 9), 6);
        due("it is the last one", x.lotOf(5, 1), 9);
        due("and a seventh one again", x.lot(3, 9), LIMIT);
    }

    static void binsAtMost() {
        Edges.says("The belt", "There are at most 8 bins, numbered from 0; the last one is the present one (there is none at first).");
        BeltSums x = new BeltSums();
        due("none at first", x.count(4), NONE);
        for (int bin = 0; bin < 8; bin++) {
            due("its number", x.bin(), bin);
            due("the present one", x.count(4), bin);
        }
        due("a ninth one", x.bin(), LIMIT);
        due("bins", x.count(3), 8);
        due("the present one", x.count(4), 7);
        x.lot(2, 9);
        x.run(1);
        x.tick(13);
        due("into the last one", x.binOf(7, 2), 9);
        due("not into the one ahead of it", x.binOf(6, 2), 0);
    }

    static void gateAtItsEnds() {
        Edges.says("The belt", "A gate has a width (0 to 200; 50 at first).");
        BeltSums x = new BeltSums();
        x.set(0, 500);
        x.lot(0, 999);
        x.run(1);
        x.tick(1);
        due("fed at first", x.massAt(0, 0), 50);
        x.gate(0);
        x.tick(1);
        due("fed by a gate of 0", x.massAt(0, 0), 0);
        x.gate(200);
        x.tick(1);
        due("fed by a gate of 200", x.massAt(0, 0), 200);
        due("the gate", x.gate(201), INVALID);
    }

    static void endWithoutBin() {
        Edges.says("The belt", "the mass of the place 11 falls into the present bin (without one it is spilt)");
        BeltSums x = new BeltSums();
        x.lot(3, 90);
        x.run(1);
        due("nothing falls yet", x.tick(12), 0);
        due("nothing is spilt yet", x.count(12), 0);
        due("it falls without a bin", x.tick(1), 50);
        due("and is spilt", x.count(12), 50);
        due("in no bin", x.count(11), 0);
        x.bin();
        due("it falls into a bin", x.tick(1), 40);
        due("and is not spilt", x.count(12), 50);
        due("in the bin", x.binOf(0, 3), 40);
    }

    static void feedOfExactlyOneLot() {
        Edges.says("The belt", "as much as the gate's width is taken from the first lot");
        BeltSums x = Edges.running(50, 50);
        x.lot(1, 50);
        x.tick(1);
        due("the whole first lot", x.massAt(0, 0), 50);
        due("nothing of the next one", x.massAt(0, 1), 0);
        due("one lot is left", x.count(0), 1);
        BeltSums y = Edges.running(51, 50);
        y.tick(1);
        due("one gram is left of it", y.lotOf(0, 1), 1);
    }

    static void feedOfManyLots() {
        Edges.says("The belt", "if it has less, all of it, and the rest from the next one, and so on");
        BeltSums x = Edges.running(49, 50);
        x.lot(1, 1);
        x.lot(2, 1);
        x.tick(1);
        due("of the first lot", x.massAt(0, 0), 49);
        due("of the next one", x.massAt(0, 1), 1);
        due("of the one behind it", x.massAt(0, 2), 0);
        due("lots", x.count(0), 1);
        BeltSums y = Edges.running(1, 6);
        for (int lot = 1; lot < 6; lot++) {
            y.lot(lot % 4, 1);
        }
        y.tick(1);
        due("of six lots in one tick", y.massAt(0, -1), 6);
        due("no lot", y.count(0), 0);
        BeltSums z = Edges.running(1, 7);
        for (int lot = 1; lot < 6; lot++) {
            z.lot(lot % 4, 1);
        }
        z.tick(1);
        due("no more than there is", z.massAt(0, -1), 6);
        z.tick(1);
        due("of an empty hopper", z.massAt(0, -1), 0);
        due("in the hopper", z.count(9), 0);
    }

    static void emptyLotsAreGone() {
        Edges.says("The belt", "lots that are empty are gone");
        BeltSums x = Edges.running(20, 20);
        x.lot(3, 5);
        x.tick(1);
        due("lots", x.count(0), 1);
        due("the first one now", x.lotOf(0, 0), 3);
        due("no second one", x.lotOf(1, 0), NONE);
        x.tick(1);
        due("no lot", x.count(0), 0);
        due("no first one", x.lotOf(0, 1), NONE);
        x.gate(0);
        x.lot(2, 1);
        x.tick(3);
        due("what is not empty stays", x.count(0), 1);
    }

    static void placeWithTooMuch() {
        Edges.says("The belt", "If the place 0 has more than setting 0 then, what is too much is spilt");
        BeltSums x = Edges.running(1000, 120);
        x.tick(1);
        due("exactly as much as it carries", x.massAt(0, -1), 120);
        due("nothing is spilt", x.count(12), 0);
        x.gate(121);
        x.tick(1);
        due("one gram more", x.massAt(0, -1), 120);
        due("is spilt", x.count(12), 1);
        x.set(0, 1);
        x.tick(1);
        due("one gram stays", x.massAt(0, -1), 1);
        due("the rest is spilt", x.count(12), 121);
        due("on the belt", x.count(8), 241);
        due("what lies further on stays", x.massAt(1, -1), 120);
        due("it came out of the hopper", x.count(9), 1000 - 362);
    }

    static void kindsThatAreSpilt() {
        Edges.says("The belt", "of its kinds the greatest number first, then the next one");
        Edges.dueRow("nothing too much", placeOfTens(40), 10, 10, 10, 10);
        Edges.dueRow("one gram too much", placeOfTens(39), 10, 10, 10, 9);
        Edges.dueRow("the whole greatest kind too much", placeOfTens(30), 10, 10, 10, 0);
        Edges.dueRow("one gram of the next one", placeOfTens(29), 10, 10, 9, 0);
        Edges.dueRow("down to the least kind", placeOfTens(10), 10, 0, 0, 0);
        Edges.dueRow("all but one gram", placeOfTens(1), 1, 0, 0, 0);
    }

    /** The masses at place 0 of the four kinds, of which ten grams each were fed. */
    private static int[] placeOfTens(int most) {
        BeltSums x = new BeltSums();
        x.set(0, most);
        int[] order = {2, 0, 3, 1};
        for (int kind : order) {
            x.lot(kind, 10);
        }
        x.gate(40);
        x.run(1);
        x.tick(1);
        due("spilt", x.count(12), 40 - most);
        return new int[] {x.massAt(0, 0), x.massAt(0, 1), x.massAt(0, 2), x.massAt(0, 3)};
    }

    static void onlyARunningBeltMoves() {
        Edges.says("The belt", "When the belt runs in a tick");
        BeltSums x = Edges.running(50, 50);
        x.tick(12);
        x.run(0);
        due("it stands", x.tick(200), 0);
        due("at the end", x.massAt(11, 0), 50);
        x.run(1);
        due("it runs", x.tick(1), 50);
    }

    // ---- the scale

    static void placesThatAreSeen() {
        Edges.says("The scale", "The scale sees the places 4 to 7.");
        BeltSums x = Edges.running(1, 1);
        int[] seen = {0, 0, 0, 0, 1, 1, 1, 1, 0, 0, 0, 0, 0};
        for (int place = 0; place < seen.length; place++) {
            x.tick(1);
            due("one gram at place " + place, x.scale(0), MILLION + seen[place]);
        }
    }

    static void readingAtFirst() {
        Edges.says("The scale", "plus its drift, less its zero (both 0 at first)");
        BeltSums x = new BeltSums();
        due("the reading", x.scale(0), MILLION);
        due("the drift", x.scale(1), MILLION);
        due("the zero", x.scale(2), MILLION);
        x.set(1, 1);
        x.set(2, -9);
        x.tick(1);
        due("a reading below 0", x.scale(0), MILLION - 9);
        x.zero();
        x.set(2, 9);
        x.tick(2);
        due("less a zero below 0", x.scale(0), MILLION + 18);
    }

    static void sumAndRest() {
        Edges.says("The scale", "its reading plus the rest is divided by 4 (towards 0); the sum becomes greater by that, "
            + "and what is left by the division (with the sign of what was divided) is the rest then");
        sums(3, 0, 1, 2, 3, 3, 4);
        sums(4, 1, 2, 3, 4);
        sums(5, 1, 2, 3, 5, 6);
        sums(1, 0, 0, 0, 1, 1, 1, 1, 2);
        sums(-1, 0, 0, 0, -1, -1, -1, -1, -2);
        sums(-3, 0, -1, -2, -3, -3, -4);
        sums(-4, -1, -2, -3, -4);
        sums(-5, -1, -2, -3, -5, -6);
        BeltSums x = new BeltSums();
        x.set(1, 1);
        x.set(2, 3);
        x.run(1);
        x.tick(1);
        due("3 by 4", x.scale(3), MILLIARD);
        x.set(2, -9);
        x.tick(1);
        due("-6 and the rest 3", x.scale(3), MILLIARD);
        x.set(2, 0);
        x.tick(1);
        due("-6 and the rest -3", x.scale(3), MILLIARD - 2);
        x.set(2, 9);
        x.tick(1);
        due("3 and the rest -1", x.scale(3), MILLIARD - 2);
        x.set(2, 0);
        x.tick(1);
        due("3 and the rest 2", x.scale(3), MILLIARD - 1);
    }

    /** The sums behind each of some ticks in which the reading is the same. */
    private static void sums(int reading, int... wanted) {
        BeltSums x = new BeltSums();
        x.set(1, 1);
        x.set(2, reading);
        x.tick(1);
        x.set(2, 0);
        due("the sum at first", x.scale(3), MILLIARD);
        x.run(1);
        for (int i = 0; i < wanted.length; i++) {
            x.tick(1);
            due("the sum behind tick " + (i + 1) + " of " + reading, x.scale(3), MILLIARD + wanted[i]);
        }
    }

    static void toldTotalOfGreatSums() {
        Edges.says("The scale", "The told total is the sum times the factor (1000 at first), exactly, divided by 1000 (towards 0).");
        BeltSums x = Edges.running(100, 100);
        due("the factor", x.scale(5), 1000);
        x.tick(6);
        x.bin();
        x.tick(20);
        due("100 of 50", x.correct(1), 2000);
        x.set(1, 1);
        x.set(2, 9);
        for (int i = 0; i < 44; i++) {
            x.tick(200);
        }
        x.tick(174);
        // 100, and a quarter of 9 times the numbers from 1 to 8974.
        due("the sum at the last time", x.scale(3), MILLIARD + 90609456);
        due("twice as much", x.scale(4), MILLIARD + 181218912);
        BeltSums y = new BeltSums();
        y.set(1, 1);
        y.set(2, -9);
        y.run(1);
        for (int i = 0; i < 45; i++) {
            y.tick(200);
        }
        due("the least sum", y.scale(3), MILLIARD - 91135125);
        due("told exactly", y.scale(4), MILLIARD - 91135125);
    }

    static void zeroBecomes() {
        Edges.says("The scale", "the zero becomes the mass of the four places plus the drift");
        BeltSums x = Edges.running(7, 1);
        x.set(1, 1);
        x.set(2, -3);
        x.tick(8);
        x.run(0);
        x.set(2, 0);
        x.tick(4);
        due("what it was", x.zero(), MILLION);
        due("four grams and the drift of -24", x.scale(2), MILLION - 20);
        due("the reading", x.scale(0), MILLION);
    }

    static void zeroOfAStandingBelt() {
        Edges.says("The scale", "This is possible if the belt has stood for the last 4 ticks at least");
        for (int stood = 0; stood <= 3; stood++) {
            int ticks = stood;
            Edges.refused("zero() behind " + stood, IMPOSSIBLE, x -> oneGramSeen(x, ticks), x -> x.zero());
        }
        BeltSums x = new BeltSums();
        oneGramSeen(x, 4);
        due("zero() behind 4", x.zero(), MILLION);
        due("the zero", x.scale(2), MILLION + 1);
        x.run(1);
        due("switched on, not run yet", x.zero(), MILLION + 1);
        x.tick(1);
        due("it ran in the latest tick", x.zero(), IMPOSSIBLE);
        x.run(0);
        x.tick(3);
        due("the 4 ticks ahead of that do not count", x.zero(), IMPOSSIBLE);
        x.tick(197);
        due("long behind", x.zero(), MILLION + 1);
    }

    private static void oneGramSeen(BeltSums x, int ticksToStand) {
        x.set(2, 0);
        x.lot(0, 1);
        x.run(1);
        x.tick(5);
        x.run(0);
        if (ticksToStand > 0) {
            x.tick(ticksToStand);
        }
    }

    static void stoodAtFirst() {
        Edges.says("The scale", "(it has stood for 0 ticks at first)");
        BeltSums x = new BeltSums();
        due("at first", x.scale(6), 0);
        x.tick(1);
        due("behind a tick", x.scale(6), 1);
        x.tick(9);
        x.lot(0, 1);
        x.run(1);
        x.tick(5);
        due("it ran", x.scale(6), 0);
        due("what it had stood is gone", x.zero(), IMPOSSIBLE);
    }

    static void zeroOfEmptyPlaces() {
        Edges.says("The scale", "or if the four places are empty");
        BeltSums x = Edges.running(1, 1);
        int[] possible = {1, 1, 1, 1, 0, 0, 0, 0, 1, 1, 1, 1, 1};
        for (int place = 0; place < possible.length; place++) {
            x.tick(1);
            due("one gram at place " + place, x.zero(), possible[place] == 1 ? MILLION : IMPOSSIBLE);
        }
        due("zero() of a new belt", new BeltSums().zero(), MILLION);
    }

    static void growthOfAPresentBin() {
        Edges.says("The scale", "what the sum became greater by in the ticks in which this bin was the present one");
        BeltSums x = new BeltSums();
        x.set(1, 1);
        x.set(2, 8);
        x.tick(1);
        x.set(2, 0);
        x.run(1);
        x.tick(1);
        x.bin();
        due("what was read ahead of it does not count", x.binOf(0, 5), MILLIARD);
        x.tick(2);
        x.bin();
        x.tick(3);
        due("the first bin", x.binOf(0, 5), MILLIARD + 4);
        due("the second one", x.binOf(1, 5), MILLIARD + 6);
        due("the sum", x.scale(3), MILLIARD + 12);
        x.run(0);
        x.tick(5);
        due("a belt that stands reads nothing", x.binOf(1, 5), MILLIARD + 6);
    }

    static void correctionByNoGrowth() {
        Edges.says("The scale", "this is possible if that is above 0");
        Edges.refused("correct(0) by a new bin", IMPOSSIBLE, x -> x.bin(), x -> x.correct(0));
        Edges.refused("correct(0) by a growth of -1", IMPOSSIBLE, x -> grown(x, -1), x -> x.correct(0));
        Edges.refused("correct(0) by a growth of 0", IMPOSSIBLE, x -> grown(x, 0), x -> x.correct(0));
        BeltSums x = new BeltSums();
        grown(x, 1);
        due("correct(0) by a growth of 1", x.correct(0), 1000);
    }

    /** One gram in the bin, which the scale has told as this. */
    private static void grown(BeltSums x, int growth) {
        x.set(2, 0);
        x.lot(0, 1);
        x.bin();
        x.run(1);
        x.tick(13);
        x.set(1, 1);
        x.set(2, growth - 1);
        x.tick(1);
        x.set(2, 0);
        x.tick(3);
        due("the growth", x.binOf(0, 5), MILLIARD + growth);
        due("the mass", x.binOf(0, 4), 1);
    }

    static void factorsAtTheirEnds() {
        Edges.says("The scale", "and the factor would be from 500 to 2000");
        Edges.refused("250 of 501", IMPOSSIBLE, TermsEdgeTest::factorOf499, x -> x.correct(0));
        Edges.refused("1999 of 999", IMPOSSIBLE, TermsEdgeTest::factorOf2001, x -> x.correct(1));
        Edges.refused("0 of 50", IMPOSSIBLE, TermsEdgeTest::factorOf2000, x -> x.correct(0));
        BeltSums least = Edges.running(200, 100);
        least.tick(13);
        due("100 of 200", least.correct(0), 500);
        due("the factor", least.scale(5), 500);
        BeltSums most = new BeltSums();
        factorOf2000(most);
        due("100 of 50", most.correct(1), 2000);
        due("the factor", most.scale(5), 2000);
    }

    private static void factorOf499(BeltSums x) {
        x.set(0, 200);
        x.set(2, 0);
        x.lot(0, 501);
        x.bin();
        x.gate(125);
        x.run(1);
        x.tick(3);
        x.gate(126);
        x.tick(11);
        due("the mass", x.binOf(0, 4), 250);
        due("the growth", x.binOf(0, 5), MILLIARD + 501);
    }

    private static void factorOf2000(BeltSums x) {
        x.set(2, 0);
        x.lot(0, 100);
        x.bin();
        x.gate(100);
        x.run(1);
        x.tick(6);
        x.bin();
        x.tick(20);
        due("the mass", x.binOf(1, 4), 100);
        due("the growth", x.binOf(1, 5), MILLIARD + 50);
    }

    private static void factorOf2001(BeltSums x) {
        x.set(0, 200);
        x.set(2, 0);
        x.lot(0, 1999);
        x.bin();
        x.gate(200);
        x.run(1);
        x.tick(5);
        x.gate(0);
        x.tick(7);
        x.bin();
        x.gate(200);
        x.tick(30);
        due("the mass", x.binOf(1, 4), 1999);
        due("the growth", x.binOf(1, 5), MILLIARD + 999);
    }

    // ---- batches

    static void batchFeedsAtFirst() {
        Edges.says("Batches", "It feeds at first");
        BeltSums x = Edges.running(100, 100);
        x.tick(1);
        due("batch(1)", x.batch(1), 100);
        due("with more than enough and no lot", x.count(6), 0);
        x.tick(1);
        due("it looks in the tick", x.count(6), 1);
    }

    static void batchOfEnoughOnTheBelt() {
        Edges.says("Batches", "what lies on the belt and what came into the present bin since the batch began are together less than this mass");
        due("as much as the belt carries", batched(600), 600);
        due("one gram more", batched(601), 650);
        due("one feed", batched(50), 50);
        due("one gram more", batched(51), 100);
        due("one gram", batched(1), 50);
        due("one gram less than two feeds", batched(99), 100);
        BeltSums x = Edges.running(9999, 50);
        x.tick(15);
        due("fallen ahead of it", x.binOf(0, 4), 150);
        due("batch(600)", x.batch(600), 600);
        x.tick(1);
        due("what lay on the belt is enough", x.count(6), 1);
        due("nothing is fed", x.massAt(0, -1), 0);
        BeltSums y = Edges.running(9999, 50);
        y.tick(15);
        y.batch(601);
        y.tick(1);
        due("one gram is missing, in spite of what the bin had", y.massAt(0, -1), 50);
        y.tick(1);
        due("what came into the bin counts", y.count(6), 1);
    }

    /** What a bin has behind a batch with a gate of 50. */
    private static int batched(int mass) {
        BeltSums x = new BeltSums();
        x.lot(1, 9999);
        x.bin();
        x.batch(mass);
        x.tick(40);
        due("the batch of " + mass + " is done", x.count(5), NONE);
        return x.binOf(0, 4);
    }

    static void batchWithoutLot() {
        Edges.says("Batches", "and there is a lot");
        BeltSums x = Edges.running(50, 50);
        x.batch(500);
        x.tick(1);
        due("it feeds the last lot", x.massAt(0, -1), 50);
        due("it feeds still", x.count(6), 0);
        x.lot(3, 1);
        x.tick(1);
        due("a lot came in time", x.massAt(0, -1), 1);
        due("it feeds still", x.count(6), 0);
        x.tick(1);
        due("no lot", x.count(6), 1);
        x.lot(3, 9);
        x.tick(1);
        due("a lot that comes later is not fed", x.massAt(0, -1), 0);
        due("it stays in the hopper", x.count(9), 9);
    }

    static void batchDone() {
        Edges.says("Batches", "A batch that does not feed any more is done when the belt is empty.");
        BeltSums x = Edges.running(1, 1);
        x.batch(1);
        x.tick(12);
        due("one gram at the end", x.massAt(11, -1), 1);
        due("it is there", x.count(5), 1);
        due("the tick in which it falls", x.tick(1), 1);
        due("it is done", x.count(5), NONE);
        due("nor does it feed or not", x.count(6), NONE);
        BeltSums y = Edges.running(9, 0);
        y.batch(9);
        y.tick(50);
        due("one that feeds is not done, with an empty belt", y.count(5), 9);
        y.gate(9);
        y.tick(14);
        due("it is done then", y.count(5), NONE);
        due("the bin", y.binOf(0, 4), 9);
    }

    // ---- a tick

    static void driftAtMultiples() {
        Edges.says("A tick", "if it is a multiple of setting 1, the drift becomes greater by setting 2");
        BeltSums x = new BeltSums();
        x.tick(19);
        due("at 19", x.scale(1), MILLION);
        x.tick(1);
        due("at 20", x.scale(1), MILLION + 1);
        x.tick(19);
        due("at 39", x.scale(1), MILLION + 1);
        x.tick(1);
        due("at 40", x.scale(1), MILLION + 2);
        BeltSums least = new BeltSums();
        least.set(1, 1);
        least.set(2, 9);
        least.tick(1);
        due("at each tick", least.scale(1), MILLION + 9);
        least.tick(2);
        due("at each tick", least.scale(1), MILLION + 27);
        BeltSums most = new BeltSums();
        most.set(1, 99);
        most.set(2, -9);
        most.tick(98);
        due("at 98", most.scale(1), MILLION);
        most.tick(1);
        due("at 99", most.scale(1), MILLION - 9);
        most.tick(99);
        due("at 198", most.scale(1), MILLION - 18);
        most.set(2, 0);
        most.tick(99);
        due("by 0", most.scale(1), MILLION - 18);
    }

    static void driftComesFirst() {
        Edges.says("A tick", "1. The time becomes greater by 1");
        BeltSums x = new BeltSums();
        x.set(1, 1);
        x.set(2, 4);
        x.run(1);
        x.tick(1);
        due("the drift of the tick is read in it", x.scale(3), MILLIARD + 1);
    }

    static void batchThatStopsForGood() {
        Edges.says("A tick", "2. If there is a batch that feeds, and what is told above for feeding is not so now, "
            + "it does not feed any more.");
        BeltSums x = Edges.running(50, 50);
        x.batch(60);
        x.tick(2);
        due("no lot", x.count(6), 1);
        x.lot(0, 500);
        x.tick(1);
        due("a lot behind that", x.count(6), 1);
        due("is not fed", x.massAt(0, -1), 0);
    }

    static void batchThatFeedsNothing() {
        Edges.says("A tick", "it runs (a batch that does not feed any more feeds nothing)");
        BeltSums x = Edges.running(500, 50);
        x.batch(50);
        x.tick(2);
        due("the mass goes on", x.massAt(1, -1), 50);
        due("nothing is fed", x.massAt(0, -1), 0);
        due("the hopper", x.count(9), 450);
        x.tick(11);
        due("it is done", x.count(5), NONE);
        x.tick(3);
        due("it stands then", x.scale(6), 3);
        x.run(1);
        x.tick(1);
        due("a belt without a batch feeds again", x.massAt(0, -1), 50);
        x.run(0);
        x.tick(1);
        x.batch(60);
        x.tick(1);
        due("and so does the next batch", x.massAt(0, -1), 50);
    }

    static void scaleReadsBehind() {
        Edges.says("A tick", "and the scale reads behind that");
        BeltSums x = Edges.running(4, 4);
        x.tick(4);
        due("at place 3", x.scale(3), MILLIARD);
        x.tick(1);
        due("at place 4", x.scale(3), MILLIARD + 1);
        x.tick(3);
        due("at place 7", x.scale(3), MILLIARD + 4);
        x.tick(1);
        due("at place 8", x.scale(3), MILLIARD + 4);
    }

    static void batchDoneInItsFirstTick() {
        Edges.says("A tick", "4. If there is a batch that does not feed any more, and the belt is empty, it is done: there is no batch then.");
        BeltSums x = new BeltSums();
        x.set(1, 1);
        x.set(2, 4);
        x.bin();
        x.batch(9999);
        due("tick(1)", x.tick(1), 0);
        due("done without a lot", x.count(5), NONE);
        due("it ran", x.scale(6), 0);
        due("and was weighed", x.scale(3), MILLIARD + 1);
        x.tick(1);
        due("it stands", x.scale(6), 1);
        due("and is not weighed", x.scale(3), MILLIARD + 1);
        due("run(1)", x.run(1), 0);
        due("bin()", x.bin(), 1);
    }

    // ---- accounts

    static void accountsAtMost() {
        Edges.says("Accounts", "the root, numbered 0, and at most 7 others, numbered from 1, each within another one (with a lower number)");
        BeltSums x = new BeltSums();
        due("the root alone", x.count(13), 1);
        for (int number = 1; number <= 7; number++) {
            due("within itself", x.account(number), INVALID);
            due("its number", x.account(number - 1), number);
            due("within", x.accountOf(number, 0), number - 1);
            due("how deep", x.accountOf(number, 4), number);
        }
        due("an eighth one", x.account(7), LIMIT);
        due("within none", x.account(8), INVALID);
        due("accounts", x.count(13), 8);
        due("under the root", x.accountOf(0, 3), 7);
        due("under the last one", x.accountOf(7, 3), 0);
        BeltSums y = new BeltSums();
        for (int number = 1; number <= 7; number++) {
            due("within the root", y.account(0), number);
        }
        due("under the root", y.accountOf(0, 3), 7);
        due("how deep", y.accountOf(7, 4), 1);
    }

    static void kindsAtFirst() {
        Edges.says("Accounts", "Each kind is booked to one account (all to the root at first): mass of this kind that falls into bins is booked to it.");
        BeltSums x = new BeltSums();
        for (int kind = 0; kind < 4; kind++) {
            due("the root", x.count(30 + kind), 0);
            x.lot(kind, 5);
        }
        x.gate(20);
        x.run(1);
        x.tick(13);
        due("spilt mass is not booked", x.accountOf(0, 1), 0);
        x.bin();
        x.lot(1, 20);
        x.lot(3, 9);
        x.set(0, 22);
        x.gate(29);
        x.tick(12);
        x.account(0);
        x.book(3, 1);
        due("mass on the belt is not booked", x.accountOf(0, 1), 0);
        x.tick(1);
        due("mass that was spilt at the place 0 neither", x.accountOf(0, 1), 20);
        due("it is the account then that counts", x.accountOf(1, 1), 2);
    }

    // ---- settings

    static void settingsAtTheirEnds() {
        Edges.says("Settings", "0 the most that a place carries (1 to 500; 120)");
        BeltSums x = new BeltSums();
        due("at first", x.count(20), 120);
        due("set(0, 0)", x.set(0, 0), INVALID);
        due("set(0, 501)", x.set(0, 501), INVALID);
        due("set(0, 500)", x.set(0, 500), 120);
        due("set(0, 1)", x.set(0, 1), 500);
        due("the setting", x.count(20), 1);
    }

    static void settingOfDriftTicks() {
        Edges.says("Settings", "1 ticks of the drift (1 to 99; 20)");
        BeltSums x = new BeltSums();
        due("at first", x.count(21), 20);
        due("set(1, 0)", x.set(1, 0), INVALID);
        due("set(1, 100)", x.set(1, 100), INVALID);
        due("set(1, 99)", x.set(1, 99), 20);
        due("set(1, 1)", x.set(1, 1), 99);
        due("the setting", x.count(21), 1);
    }

    static void settingOfTheDrift() {
        Edges.says("Settings", "2 the drift (-9 to 9; 1)");
        BeltSums x = new BeltSums();
        due("at first", x.count(22), 11);
        due("set(2, -10)", x.set(2, -10), INVALID);
        due("set(2, 10)", x.set(2, 10), INVALID);
        due("set(2, -9)", x.set(2, -9), 1);
        due("set(2, 0)", x.set(2, 0), -9);
        due("set(2, 9)", x.set(2, 9), 0);
        due("set(2, 9)", x.set(2, 9), 9);
        due("the setting", x.count(22), 19);
    }

    // ---- changes and errors

    static void callsThatAreChanges() {
        Edges.says("Changes and errors", "The changes are the calls of lot, gate, bin, run, batch, zero, correct, account, book, tick, set and play "
            + "that return no error.");
        recorded("lot", 1, x -> x.lot(1, 77));
        recorded("gate", 1, x -> x.gate(33));
        recorded("gate, to what it is", 1, x -> x.gate(17));
        recorded("bin", 1, x -> x.bin());
        recorded("run", 1, x -> x.run(0));
        recorded("run, to what it is", 1, x -> x.run(1));
        recorded("batch", 1, x -> x.batch(9));
        recorded("zero", 1, x -> x.zero());
        recorded("correct", 1, x -> x.correct(0));
        recorded("account", 1, x -> x.account(0));
        recorded("book", 1, x -> x.book(2, 1));
        recorded("book, to what it is", 1, x -> x.book(2, 0));
        recorded("tick", 1, x -> x.tick(1));
        recorded("set", 1, x -> x.set(2, 4));
        recorded("set, to what it is", 1, x -> x.set(2, 0));
        recorded("play", 1, x -> x.play());
        recorded("play of an empty text", 1, x -> x.clearText() < 0 ? -1 : x.play());
    }

    static void callsThatAreNoChanges() {
        Edges.says("Changes and errors", "each change records everything before it but the text");
        recorded("type", 0, x -> x.type('t'));
        recorded("clearText", 0, x -> x.clearText());
        recorded("fault", 0, x -> x.fault(0));
        recorded("accountOf", 0, x -> x.accountOf(0, 1));
        recorded("massAt", 0, x -> x.massAt(0, 0));
        recorded("lotOf", 0, x -> x.lotOf(0, 0));
        recorded("binOf", 0, x -> x.binOf(0, 4));
        recorded("scale", 0, x -> x.scale(0));
        recorded("count", 0, x -> x.count(0));
        recorded("batchIn", 0, x -> x.batchIn());
        recorded("batchOut", 0, x -> x.batchOut());
        recorded("error", 0, x -> x.error());
        recorded("a refused lot", 0, x -> x.lot(4, 1));
        recorded("a refused gate", 0, x -> x.gate(201));
        recorded("a refused run", 0, x -> x.run(2));
        recorded("a refused batch", 0, x -> x.batch(0));
        recorded("a refused correct", 0, x -> x.correct(1));
        recorded("a refused account", 0, x -> x.account(2));
        recorded("a refused book", 0, x -> x.book(0, 2));
        recorded("a refused tick", 0, x -> x.tick(0));
        recorded("a refused set", 0, x -> x.set(0, 0));
        recorded("a refused play", 0, x -> x.type('q') < 0 ? 0 : x.play());
        BeltSums x = new BeltSums();
        x.gate(1);
        Edges.write(x, "b;");
        x.gate(2);
        x.type('x');
        due("undo()", x.undo(), 1);
        due("the text is not restored", x.count(15), 3);
        x.clearText();
        due("undo()", x.undo(), 0);
        due("an emptied text neither", x.count(15), 0);
    }

    /** A gate of 17 is set just ahead of the call: it is undone if the call is no change. */
    private static void recorded(String name, int wanted, java.util.function.ToIntFunction<BeltSums> call) {
        BeltSums x = Edges.running(40, 10);
        x.account(0);
        x.tick(16);
        Edges.write(x, "b;");
        x.gate(17);
        call.applyAsInt(x);
        due("undo() behind " + name, x.undo(), 3);
        due("the gate behind that", x.count(1), wanted == 1 ? 17 : 10);
    }

    static void statesAtMost() {
        Edges.says("Changes and errors", "A history of at most 4 states is kept: each change records everything before it but the text, "
            + "and if there are 5 states then, the oldest one is dropped.");
        BeltSums x = new BeltSums();
        due("undo() of a new object", x.undo(), IMPOSSIBLE);
        for (int change = 1; change <= 5; change++) {
            x.gate(change);
            due("states behind " + change, x.count(14), Math.min(change, 4));
        }
        for (int left = 3; left >= 0; left--) {
            due("undo()", x.undo(), left);
            due("the gate", x.count(1), left + 1);
        }
        due("the oldest one was dropped", x.undo(), IMPOSSIBLE);
        due("the gate", x.count(1), 1);
        BeltSums y = new BeltSums();
        for (int change = 1; change <= 4; change++) {
            y.gate(change);
        }
        for (int left = 3; left >= 0; left--) {
            due("undo() of four", y.undo(), left);
        }
        due("all four are undone", y.count(1), 50);
        for (int change = 1; change <= 9; change++) {
            y.gate(change);
        }
        due("four again", y.count(14), 4);
        y.undo();
        y.gate(100);
        for (int left = 3; left >= 0; left--) {
            due("undo() with one in the place of another that was undone", y.undo(), left);
            due("the gate", y.count(1), left + 5);
        }
    }

    static void errorsThatComeFirst() {
        Edges.says("Changes and errors", "If several errors apply to a call, INVALID_ARGUMENT is returned rather than NOT_POSSIBLE");
        Edges.refused("run(2) in a batch", INVALID, Edges::inBatch, x -> x.run(2));
        Edges.refused("run(-1) in a batch", INVALID, Edges::inBatch, x -> x.run(-1));
        Edges.refused("batch(0) in a batch", INVALID, Edges::inBatch, x -> x.batch(0));
        Edges.refused("batch(10000) in a batch", INVALID, Edges::inBatch, x -> x.batch(10000));
        Edges.refused("batch(0) without a bin", INVALID, Edges::anew, x -> x.batch(0));
        Edges.refused("batch(10000) without a bin", INVALID, Edges::anew, x -> x.batch(10000));
    }

    static void impossibleRatherThanLimit() {
        Edges.says("Changes and errors", "NOT_POSSIBLE rather than LIMIT_REACHED");
        Edges.refused("bin() in a batch with 8 bins", IMPOSSIBLE, Edges::fullInBatch, x -> x.bin());
    }

    static void invalidRatherThanLimit() {
        Edges.says("Changes and errors", "INVALID_ARGUMENT is returned rather than NOT_POSSIBLE, NOT_POSSIBLE rather than LIMIT_REACHED");
        Edges.refused("lot(4, 1) with 6 lots", INVALID, Edges::full, x -> x.lot(4, 1));
        Edges.refused("lot(0, 0) with 6 lots", INVALID, Edges::full, x -> x.lot(0, 0));
        Edges.refused("account(8) with 8 accounts", INVALID, Edges::full, x -> x.account(8));
        Edges.refused("account(-1) with 8 accounts", INVALID, Edges::full, x -> x.account(-1));
        Edges.refused("type(31) with 60 characters", INVALID, Edges::full, x -> x.type(31));
        Edges.refused("type(127) with 60 characters", INVALID, Edges::full, x -> x.type(127));
        Edges.refused("tick(0) at the last time", INVALID, Edges::late, x -> x.tick(0));
        Edges.refused("tick(201) at the last time", INVALID, Edges::late, x -> x.tick(201));
    }

    static void invalidRatherThanNotFound() {
        Edges.says("Changes and errors", "and LIMIT_REACHED rather than NOT_FOUND");
        Edges.refused("lotOf(0, 2) without a lot", INVALID, Edges::anew, x -> x.lotOf(0, 2));
        Edges.refused("lotOf(0, -1) without a lot", INVALID, Edges::anew, x -> x.lotOf(0, -1));
        Edges.refused("lotOf(-1, 0) without a lot", INVALID, Edges::anew, x -> x.lotOf(-1, 0));
        Edges.refused("accountOf(0, 5) of the root", INVALID, Edges::anew, x -> x.accountOf(0, 5));
        Edges.refused("accountOf(0, -1) of the root", INVALID, Edges::anew, x -> x.accountOf(0, -1));
        Edges.refused("fault(3) of an empty text", INVALID, Edges::anew, x -> x.fault(3));
        Edges.refused("fault(-1) of an empty text", INVALID, Edges::anew, x -> x.fault(-1));
    }

    static void errorsChangeNothing() {
        Edges.says("Changes and errors", "A call that returns an error changes nothing.");
        Edges.refused("lot(-1, 5)", INVALID, Edges::busy, x -> x.lot(-1, 5));
        Edges.refused("a seventh lot", LIMIT, Edges::full, x -> x.lot(0, 5));
        Edges.refused("gate(201)", INVALID, Edges::busy, x -> x.gate(201));
        Edges.refused("run(2)", INVALID, Edges::busy, x -> x.run(2));
        Edges.refused("run(1) in a batch", IMPOSSIBLE, Edges::inBatch, x -> x.run(1));
        Edges.refused("run(0) in a batch", IMPOSSIBLE, Edges::inBatch, x -> x.run(0));
        Edges.refused("bin() in a batch", IMPOSSIBLE, Edges::inBatch, x -> x.bin());
        Edges.refused("a ninth bin", LIMIT, Edges::full, x -> x.bin());
        Edges.refused("batch(0)", INVALID, Edges::busy, x -> x.batch(0));
        Edges.refused("batch(5) in a batch", IMPOSSIBLE, Edges::inBatch, x -> x.batch(5));
        Edges.refused("batch(5) without a bin", IMPOSSIBLE, Edges::anew, x -> x.batch(5));
        Edges.refused("tick(0)", INVALID, Edges::busy, x -> x.tick(0));
        Edges.refused("tick(1) at the last time", LIMIT, Edges::late, x -> x.tick(1));
        Edges.refused("zero()", IMPOSSIBLE, Edges::busy, x -> x.zero());
        Edges.refused("correct(2)", INVALID, Edges::busy, x -> x.correct(2));
        Edges.refused("correct(7) by an empty bin", IMPOSSIBLE, Edges::full, x -> x.correct(7));
        Edges.refused("set(0, 501)", INVALID, Edges::busy, x -> x.set(0, 501));
        Edges.refused("set(3, 1)", INVALID, Edges::busy, x -> x.set(3, 1));
        Edges.refused("account(3)", INVALID, Edges::busy, x -> x.account(3));
        Edges.refused("an eighth account", LIMIT, Edges::full, x -> x.account(0));
        Edges.refused("book(0, 3)", INVALID, Edges::busy, x -> x.book(0, 3));
        Edges.refused("book(4, 0)", INVALID, Edges::busy, x -> x.book(4, 0));
        Edges.refused("batchIn()", IMPOSSIBLE, Edges::busy, x -> x.batchIn());
        Edges.refused("batchOut()", IMPOSSIBLE, Edges::busy, x -> x.batchOut());
        Edges.refused("undo()", IMPOSSIBLE, Edges::anew, x -> x.undo());
        Edges.refused("type(127)", INVALID, Edges::busy, x -> x.type(127));
        Edges.refused("a character more", LIMIT, Edges::full, x -> x.type('x'));
        Edges.refused("fault(3)", INVALID, Edges::busy, x -> x.fault(3));
        Edges.refused("fault(0) of a text without a fault", NONE, Edges::busy, x -> x.fault(0));
        Edges.refused("play() of a text with a fault", IMPOSSIBLE, TermsEdgeTest::busyWithFault, x -> x.play());
    }

    private static void busyWithFault(BeltSums x) {
        Edges.busy(x);
        Edges.write(x, "l0,9;g9;t5;b;m5;t3;s;");
    }

    static void looksChangeNothing() {
        Edges.says("Not promised", "Nothing is promised beyond the answers and state changes described above");
        Edges.changesNothing("batchIn()", Edges::inBatch, x -> x.batchIn());
        Edges.changesNothing("batchOut()", Edges::inBatch, x -> x.batchOut());
        Edges.changesNothing("fault(0)", TermsEdgeTest::busyWithFault, x -> x.fault(0));
        Edges.changesNothing("fault(2)", TermsEdgeTest::busyWithFault, x -> x.fault(2));
        Edges.changesNothing("error()", Edges::inBatch, x -> x.error());
        Edges.changesNothing("massAt(3, -1)", Edges::inBatch, x -> x.massAt(3, -1));
        Edges.changesNothing("accountOf(0, 2)", Edges::inBatch, x -> x.accountOf(0, 2));
    }

    static void numbersOfNoBinOrAccount() {
        Edges.says("Changes and errors", "If there is no bin or account with a certain number, this is INVALID_ARGUMENT.");
        BeltSums x = new BeltSums();
        due("binOf(0, 4) without a bin", x.binOf(0, 4), INVALID);
        due("correct(0) without a bin", x.correct(0), INVALID);
        due("accountOf(1, 1)", x.accountOf(1, 1), INVALID);
        due("account(1)", x.account(1), INVALID);
        due("book(0, 1)", x.book(0, 1), INVALID);
        x.bin();
        x.account(0);
        due("binOf(0, 4)", x.binOf(0, 4), 0);
        due("binOf(1, 4)", x.binOf(1, 4), INVALID);
        due("correct(1)", x.correct(1), INVALID);
        due("accountOf(1, 1)", x.accountOf(1, 1), 0);
        due("accountOf(2, 1)", x.accountOf(2, 1), INVALID);
        due("account(2)", x.account(2), INVALID);
        due("book(0, 2)", x.book(0, 2), INVALID);
        x.undo();
        x.undo();
        due("binOf(0, 4) of a bin that was undone", x.binOf(0, 4), INVALID);
        due("accountOf(1, 1) of an account that was undone", x.accountOf(1, 1), INVALID);
        BeltSums y = new BeltSums();
        Edges.full(y);
        due("binOf(7, 4)", y.binOf(7, 4), 0);
        due("binOf(8, 4)", y.binOf(8, 4), INVALID);
        due("correct(8)", y.correct(8), INVALID);
        due("accountOf(7, 1)", y.accountOf(7, 1), 0);
        due("accountOf(8, 1)", y.accountOf(8, 1), INVALID);
        due("book(0, 8)", y.book(0, 8), INVALID);
    }
}
