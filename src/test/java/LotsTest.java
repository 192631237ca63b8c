/** Promises 5, 6, 8 and 9: lots, their pollen, and what is told of them. */
public final class LotsTest {
    public static void main(String[] args) {
        lotsCome();
        lotsThatCannotBe();
        fortyLots();
        toldOfLots();
        spans();
        Check.finish();
    }

    private static void lotsCome() {
        HoneyHouse x = new HoneyHouse();
        Check.due("lot least", 0, x.lot(0, 1, 100, 0, 0));
        Check.due("lot most", 1, x.lot(9, 200000, 300, 140, 3));
        Check.due("count", 2, x.count(0));
    }

    private static void lotsThatCannotBe() {
        HoneyHouse x = new HoneyHouse();
        Check.due("keeper -1", -1, x.lot(-1, 1, 100, 0, 0));
        Check.due("keeper 10", -1, x.lot(10, 1, 100, 0, 0));
        Check.due("grams 0", -1, x.lot(0, 0, 100, 0, 0));
        Check.due("grams 200001", -1, x.lot(0, 200001, 100, 0, 0));
        Check.due("water 99", -1, x.lot(0, 1, 99, 0, 0));
        Check.due("water 301", -1, x.lot(0, 1, 301, 0, 0));
        Check.due("colour -1", -1, x.lot(0, 1, 100, -1, 0));
        Check.due("colour 141", -1, x.lot(0, 1, 100, 141, 0));
        Check.due("land -1", -1, x.lot(0, 1, 100, 0, -1));
        Check.due("land 4", -1, x.lot(0, 1, 100, 0, 4));
        Check.due("count", 0, x.count(0));
        Check.due("the first that can be", 0, x.lot(0, 1, 100, 0, 0));
    }

    private static void fortyLots() {
        HoneyHouse x = new HoneyHouse();
        for (int k = 0; k < 40; k++) {
            Check.due("lot " + k, k, x.lot(k % 10, k + 1, 100 + k, k, k % 4));
        }
        Check.due("lot 40", -1, x.lot(0, 1, 100, 0, 0));
        Check.due("count", 40, x.count(0));
        Check.due("of 39", 40, x.of(39, 1));
        Check.due("of 40", -1, x.of(40, 1));
    }

    private static void toldOfLots() {
        HoneyHouse x = new HoneyHouse();
        x.step(0, 200, 1500);
        x.lot(3, 1001, 180, 77, 2);
        x.tank(0, 1000, 0);
        x.pour(0, 0, 400);
        int[] due = {3, 1001, 180, 77, 2, 601, 1501};
        for (int what = 0; what < due.length; what++) {
            Check.due("of 0 " + what, due[what], x.of(0, what));
        }
        Check.due("of what 7", -1, x.of(0, 7));
        Check.due("of what -1", -1, x.of(0, -1));
        Check.due("of lot 1", -1, x.of(1, 0));
        Check.due("of lot -1", -1, x.of(-1, 0));
    }

    private static void spans() {
        HoneyHouse x = new HoneyHouse();
        x.lot(0, 1, 100, 0, 0);
        Check.due("low at first", 0, x.span(0, 4, 0));
        Check.due("high at first", 1000, x.span(0, 4, 1));
        Check.due("pollen", true, x.pollen(0, 0, 400, 500));
        Check.due("low", 400, x.span(0, 0, 0));
        Check.due("high", 500, x.span(0, 0, 1));
        Check.due("another kind", 0, x.span(0, 1, 0));
        Check.due("span kind 5", -1, x.span(0, 5, 0));
        Check.due("span kind -1", -1, x.span(0, -1, 0));
        Check.due("span what 2", -1, x.span(0, 0, 2));
        Check.due("span what -1", -1, x.span(0, 0, -1));
        Check.due("span lot 1", -1, x.span(1, 0, 0));
        Check.due("pollen lot 1", false, x.pollen(1, 0, 0, 1000));
        Check.due("pollen lot -1", false, x.pollen(-1, 0, 0, 1000));
        Check.due("pollen kind 5", false, x.pollen(0, 5, 0, 1000));
        Check.due("pollen kind -1", false, x.pollen(0, -1, 0, 1000));
        Check.due("low -1", false, x.pollen(0, 1, -1, 1000));
        Check.due("high 1001", false, x.pollen(0, 1, 0, 1001));
        Check.due("low above high", false, x.pollen(0, 1, 301, 300));
        Check.due("lows to 1000", true, x.pollen(0, 1, 600, 600));
        Check.due("lows to 1001", false, x.pollen(0, 2, 1, 1000));
        Check.due("nothing changed", 0, x.span(0, 2, 0));
        // Its own low is replaced, not added once more.
        Check.due("lows anew", true, x.pollen(0, 1, 599, 600));
        Check.due("lows to 1000 again", true, x.pollen(0, 2, 1, 1000));
        highs();
    }

    private static void highs() {
        HoneyHouse x = new HoneyHouse();
        x.lot(0, 1, 100, 0, 0);
        for (int kind = 0; kind < 4; kind++) {
            Check.due("high 200", true, x.pollen(0, kind, 0, 200));
        }
        Check.due("highs to 999", false, x.pollen(0, 4, 0, 199));
        Check.due("high stays", 1000, x.span(0, 4, 1));
        Check.due("highs to 1000", true, x.pollen(0, 4, 200, 200));
        Check.due("high", 200, x.span(0, 4, 1));
    }
}
