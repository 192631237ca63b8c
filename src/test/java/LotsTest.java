/** Promises 5, 6, 8 and 9: lots, their pollen, and what is told of them. */
public final class LotsTest {
    public static void main(String[] args) {
        lotsAreNumberedAsTheyCome();
        lotEdges();
        lotRefusedTakesNoNumber();
        fortyLots();

        pollenEdges();
        pollenOfNoLotOrKind();
        pollenIsASpan();
        lowsAddUpTo1000();
        highsAddUpTo1000();
        ownSpanIsReplaced();
        pollenRefusedDoesNothing();
        pollenIsOfOneLotAndKind();

        ofEach();
        ofOthers();
        leftGoesDownToNothing();
        spansAtFirst();
        spanOfOthers();
        Check.finish();
    }

    private static HoneyHouse oneLot() {
        HoneyHouse x = new HoneyHouse();
        x.lot(0, 1, 100, 0, 0);
        return x;
    }

    private static void span(String at, HoneyHouse x, int lot, int kind, int low, int high) {
        Check.due(at + ", low", low, x.span(lot, kind, 0));
        Check.due(at + ", high", high, x.span(lot, kind, 1));
    }

    // ---- Promise 5

    private static void lotsAreNumberedAsTheyCome() {
        HoneyHouse x = new HoneyHouse();
        Check.due("all at their least", 0, x.lot(0, 1, 100, 0, 0));
        Check.due("all at their most", 1, x.lot(9, 200000, 300, 140, 3));
        Check.due("the next one", 2, x.lot(0, 1, 100, 0, 0));
        Check.due("count", 3, x.count(0));
    }

    private static void lotEdges() {
        Check.range("keeper", 0, 9, n -> new HoneyHouse().lot(n, 1, 100, 0, 0) == 0);
        Check.range("grams", 1, 200000, n -> new HoneyHouse().lot(0, n, 100, 0, 0) == 0);
        Check.range("water", 100, 300, n -> new HoneyHouse().lot(0, 1, n, 0, 0) == 0);
        Check.range("colour", 0, 140, n -> new HoneyHouse().lot(0, 1, 100, n, 0) == 0);
        Check.range("land", 0, 3, n -> new HoneyHouse().lot(0, 1, 100, 0, n) == 0);
    }

    private static void lotRefusedTakesNoNumber() {
        HoneyHouse x = new HoneyHouse();
        Check.due("keeper -1", -1, x.lot(-1, 1, 100, 0, 0));
        Check.due("grams 0", -1, x.lot(0, 0, 100, 0, 0));
        Check.due("water 301", -1, x.lot(0, 1, 301, 0, 0));
        Check.due("colour 141", -1, x.lot(0, 1, 100, 141, 0));
        Check.due("land 4", -1, x.lot(0, 1, 100, 0, 4));
        Check.due("count", 0, x.count(0));
        Check.due("of 0", -1, x.of(0, 0));
        Check.due("the first that can be", 0, x.lot(0, 1, 100, 0, 0));
    }

    private static void fortyLots() {
        HoneyHouse x = new HoneyHouse();
        for (int k = 0; k < 40; k++) {
            Check.due("lot " + k, k, x.lot(k % 10, k + 1, 100 + k, k, k % 4));
        }
        long paid = x.paid(0);
        Check.due("lot 40", -1, x.lot(0, 1, 100, 0, 0));
        Check.due("count", 40, x.count(0));
        Check.due("paid stays", paid, x.paid(0));
        Check.due("grams of keeper 0 stay", 1 + 11 + 21 + 31, x.whose(0, 0));
        Check.due("of 0", 1, x.of(0, 1));
        Check.due("of 39", 40, x.of(39, 1));
        Check.due("of 40", -1, x.of(40, 1));
        Check.due("span of 39", 1000, x.span(39, 4, 1));
        Check.due("span of 40", -1, x.span(40, 4, 1));
        Check.due("test of 39", 0, x.test(39, 150));
        Check.due("test of 40", -1000000000, x.test(40, 150));
        x.tank(0, 100, 0);
        Check.due("pour of 39", 39, x.pour(39, 0, 1));
        Check.due("pour of 40", -1, x.pour(40, 0, 1));
        Check.due("part of 39", 1, x.part(0, 0, 39));
        Check.due("part of 40", -1, x.part(0, 0, 40));
        Check.due("trace of 39", 0, x.trace(39));
        Check.due("trace of 40", -1, x.trace(40));
    }

    // ---- Promise 6

    private static void pollenEdges() {
        Check.range("low up to high 1000", 0, 1000, n -> oneLot().pollen(0, 0, n, 1000));
        Check.range("high from low 0", 0, 1000, n -> oneLot().pollen(0, 0, 0, n));
        Check.range("kind", 0, 4, n -> oneLot().pollen(0, n, 1, 2));
        Check.range("lot", 0, 0, n -> oneLot().pollen(n, 0, 1, 2));
    }

    private static void pollenOfNoLotOrKind() {
        Check.due("no lots", false, new HoneyHouse().pollen(0, 0, 0, 1000));
        Check.due("lot 1 of 1", false, oneLot().pollen(1, 0, 0, 1000));
        Check.due("kind 5", false, oneLot().pollen(0, 5, 0, 1000));
    }

    private static void pollenIsASpan() {
        Check.due("low is high", true, oneLot().pollen(0, 0, 300, 300));
        Check.due("low above high", false, oneLot().pollen(0, 0, 301, 300));
        Check.due("0 to 0", true, oneLot().pollen(0, 0, 0, 0));
        Check.due("1 to 0", false, oneLot().pollen(0, 0, 1, 0));
        Check.due("1000 to 1000", true, oneLot().pollen(0, 0, 1000, 1000));
        Check.due("-1 to 1000", false, oneLot().pollen(0, 0, -1, 1000));
        Check.due("0 to 1001", false, oneLot().pollen(0, 0, 0, 1001));
        Check.due("1001 to 1001", false, oneLot().pollen(0, 0, 1001, 1001));
        Check.due("utmost", false, oneLot().pollen(0, 0, Integer.MIN_VALUE, Integer.MAX_VALUE));
    }

    private static void lowsAddUpTo1000() {
        HoneyHouse x = oneLot();
        x.pollen(0, 0, 400, 1000);
        x.pollen(0, 1, 100, 1000);
        x.pollen(0, 3, 200, 1000);
        Check.due("lows to 1001", false, x.pollen(0, 4, 301, 1000));
        Check.due("lows to 1000", true, x.pollen(0, 4, 300, 1000));
        Check.due("one more", false, x.pollen(0, 2, 1, 1000));
    }

    private static void highsAddUpTo1000() {
        HoneyHouse x = oneLot();
        for (int kind = 0; kind < 4; kind++) {
            Check.due("high 200", true, x.pollen(0, kind, 0, 200));
        }
        Check.due("highs to 999", false, x.pollen(0, 4, 0, 199));
        Check.due("highs to 1000", true, x.pollen(0, 4, 0, 200));
        Check.due("one less", false, x.pollen(0, 0, 0, 199));
    }

    private static void ownSpanIsReplaced() {
        HoneyHouse x = oneLot();
        x.pollen(0, 0, 1000, 1000);
        Check.due("once more", true, x.pollen(0, 0, 1000, 1000));
        Check.due("another one", false, x.pollen(0, 1, 1, 1000));
        Check.due("less", true, x.pollen(0, 0, 999, 1000));
        Check.due("another one then", true, x.pollen(0, 1, 1, 1000));
        Check.due("back to the first span", true, x.pollen(0, 0, 0, 1000));
        span("back", x, 0, 0, 0, 1000);
    }

    private static void pollenRefusedDoesNothing() {
        HoneyHouse x = oneLot();
        x.pollen(0, 0, 100, 500);
        x.pollen(0, 1, 600, 700);
        x.pollen(0, 0, 401, 450);
        span("lows above 1000", x, 0, 0, 100, 500);
        x.pollen(0, 0, 300, 299);
        span("no span", x, 0, 0, 100, 500);
        x.pollen(0, 0, -1, 450);
        span("low -1", x, 0, 0, 100, 500);
        x.pollen(0, 0, 200, 1001);
        span("high 1001", x, 0, 0, 100, 500);
        HoneyHouse y = oneLot();
        for (int kind = 0; kind < 5; kind++) {
            y.pollen(0, kind, 0, 200);
        }
        y.pollen(0, 2, 100, 199);
        span("highs below 1000", y, 0, 2, 0, 200);
    }

    private static void pollenIsOfOneLotAndKind() {
        HoneyHouse x = oneLot();
        x.lot(0, 1, 100, 0, 0);
        x.pollen(1, 4, 400, 500);
        for (int lot = 0; lot < 2; lot++) {
            for (int kind = 0; kind < 5; kind++) {
                boolean isIt = lot == 1 && kind == 4;
                span("lot " + lot + " kind " + kind, x, lot, kind, isIt ? 400 : 0,
                    isIt ? 500 : 1000);
            }
        }
    }

    // ---- Promise 8

    private static void ofEach() {
        HoneyHouse x = new HoneyHouse();
        x.lot(9, 200000, 300, 140, 3);
        x.step(0, 200, 1500);
        x.lot(3, 1001, 180, 77, 2);
        x.tank(0, 1000, 0);
        x.pour(1, 0, 400);
        int[][] due = {{9, 200000, 300, 140, 3, 200000, 0}, {3, 1001, 180, 77, 2, 601, 1501}};
        for (int lot = 0; lot < 2; lot++) {
            for (int what = 0; what <= 6; what++) {
                Check.due("of " + lot + " " + what, due[lot][what], x.of(lot, what));
            }
        }
    }

    private static void ofOthers() {
        Check.range("of what", 0, 6, what -> oneLot().of(0, what) != -1);
        Check.range("of lot", 0, 0, lot -> oneLot().of(lot, 1) != -1);
        Check.due("of what 7", -1, oneLot().of(0, 7));
        Check.due("of lot 1", -1, oneLot().of(1, 1));
        Check.due("of no lots", -1, new HoneyHouse().of(0, 1));
    }

    private static void leftGoesDownToNothing() {
        HoneyHouse x = new HoneyHouse();
        x.lot(0, 7, 100, 0, 0);
        x.tank(0, 100, 0);
        Check.due("all is left", 7, x.of(0, 5));
        x.pour(0, 0, 6);
        Check.due("one is left", 1, x.of(0, 5));
        x.pour(0, 0, 1);
        Check.due("none is left", 0, x.of(0, 5));
        x.spill(0, 7);
        Check.due("none comes back", 0, x.of(0, 5));
        Check.due("grams stay", 7, x.of(0, 1));
    }

    // ---- Promise 9

    private static void spansAtFirst() {
        HoneyHouse x = oneLot();
        for (int kind = 0; kind <= 4; kind++) {
            span("kind " + kind + " at first", x, 0, kind, 0, 1000);
        }
    }

    private static void spanOfOthers() {
        Check.range("span lot", 0, 0, n -> oneLot().span(n, 0, 1) == 1000);
        Check.range("span kind", 0, 4, n -> oneLot().span(0, n, 1) == 1000);
        Check.range("span what", 0, 1, n -> oneLot().span(0, 0, n) != -1);
        Check.due("span lot 1", -1, oneLot().span(1, 0, 0));
        Check.due("span kind 5", -1, oneLot().span(0, 5, 0));
        Check.due("span what 2", -1, oneLot().span(0, 0, 2));
        Check.due("span of no lots", -1, new HoneyHouse().span(0, 0, 0));
    }
}
