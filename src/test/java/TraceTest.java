/** Promises 28 to 30: batches of a lot, and where a keeper's grams are. */
public final class TraceTest {
    public static void main(String[] args) {
        traceEdges();
        traceFindsInOrder();
        traceFindsNothing();
        traceFindsOneGram();
        traceThroughAMove();
        traceRefusedDoesNothing();

        foundEdges();
        foundAheadOfAny();
        foundIsAsItWasTraced();
        foundOfTheLatestTrace();

        whoseEdges();
        whoseOfEach();
        whoseAddsUpToAll();
        whoseOfSeveralLots();
        whoseAtItsUtmost();
        Check.finish();
    }

    /** Keeper 3 has lots 0 (100 grams) and 2 (30 grams), keeper 4 lot 1 (50 grams). */
    private static HoneyHouse house() {
        HoneyHouse x = new HoneyHouse();
        x.lot(3, 100, 150, 0, 0);
        x.lot(4, 50, 150, 0, 0);
        x.lot(3, 30, 150, 0, 0);
        x.tank(0, 1000, 0);
        x.tank(1, 1000, 0);
        return x;
    }

    /** Batches 0 and 2 are of lot 0, batch 1 is of lot 1. */
    private static HoneyHouse jarred() {
        HoneyHouse x = house();
        x.pour(0, 0, 50);
        x.pour(1, 1, 20);
        x.jar(0, 10);
        x.jar(1, 10);
        x.jar(0, 10);
        return x;
    }

    // ---- Promise 28

    private static void traceEdges() {
        Check.range("trace", 0, 2, lot -> jarred().trace(lot) != -1);
        Check.due("trace -1", -1, jarred().trace(-1));
        Check.due("trace 3 of 3", -1, jarred().trace(3));
        Check.due("no lots", -1, new HoneyHouse().trace(0));
    }

    private static void traceFindsInOrder() {
        HoneyHouse x = jarred();
        Check.due("trace 0", 2, x.trace(0));
        Check.due("found 0", 0, x.found(0));
        Check.due("found 1", 2, x.found(1));
        Check.due("found 2", -1, x.found(2));
        Check.due("trace 1", 1, x.trace(1));
        Check.due("found of 1", 1, x.found(0));
        Check.due("no more of 0", -1, x.found(1));
    }

    private static void traceFindsNothing() {
        HoneyHouse x = house();
        Check.due("no batches", 0, x.trace(0));
        Check.due("found in no batches", -1, x.found(0));
        HoneyHouse y = jarred();
        y.trace(0);
        Check.due("of a lot that is in none", 0, y.trace(2));
        Check.due("found of it", -1, y.found(0));
        y.pour(2, 0, 30);
        Check.due("in a tank alone", 0, y.trace(2));
    }

    private static void traceFindsOneGram() {
        HoneyHouse x = house();
        x.pour(0, 0, 9);
        x.pour(2, 0, 1);
        // 4 of 10: 3.6 and 0.4 are 3 and 0, and the first makes up.
        x.jar(0, 4);
        Check.due("no gram of it", 0, x.trace(2));
        // 4 of 6: 20/6 and 4/6 are 3 and 0, and the second makes up.
        x.jar(0, 4);
        Check.due("one gram of it", 1, x.trace(2));
        Check.due("found", 1, x.found(0));
        Check.due("both have the other one", 2, x.trace(0));
    }

    private static void traceThroughAMove() {
        HoneyHouse x = jarred();
        x.move(1, 0, 10);
        x.jar(0, 40);
        Check.due("trace 1", 2, x.trace(1));
        Check.due("found ahead", 1, x.found(0));
        Check.due("found through the move", 3, x.found(1));
        Check.due("trace 0", 3, x.trace(0));
        Check.due("found last", 3, x.found(2));
    }

    private static void traceRefusedDoesNothing() {
        int[] refused = {-1, 3, 40, Integer.MIN_VALUE, Integer.MAX_VALUE};
        for (int lot : refused) {
            HoneyHouse x = jarred();
            x.trace(0);
            Check.due("trace " + lot, -1, x.trace(lot));
            Check.due("found 0 after " + lot, 0, x.found(0));
            Check.due("found 1 after " + lot, 2, x.found(1));
            Check.due("found 2 after " + lot, -1, x.found(2));
        }
    }

    // ---- Promise 29

    private static void foundEdges() {
        Check.range("found", 0, 1, k -> {
            HoneyHouse x = jarred();
            x.trace(0);
            return x.found(k) != -1;
        });
    }

    private static void foundAheadOfAny() {
        HoneyHouse x = jarred();
        Check.due("ahead of any trace", -1, x.found(0));
        x.trace(-1);
        Check.due("after a refused one", -1, x.found(0));
    }

    private static void foundIsAsItWasTraced() {
        HoneyHouse x = jarred();
        x.trace(0);
        x.jar(0, 5);
        Check.due("a later batch is not found", -1, x.found(2));
        Check.due("those before are", 2, x.found(1));
        Check.due("trace anew", 3, x.trace(0));
        Check.due("now it is", 3, x.found(2));
    }

    private static void foundOfTheLatestTrace() {
        HoneyHouse x = jarred();
        x.trace(0);
        x.trace(1);
        Check.due("of lot 1", 1, x.found(0));
        Check.due("not of lot 0", -1, x.found(1));
    }

    // ---- Promise 30

    private static void whoseEdges() {
        Check.range("whose keeper", 0, 9, n -> jarred().whose(n, 0) != -1);
        Check.range("whose what", 0, 3, n -> jarred().whose(3, n) != -1);
        Check.due("keeper 10", -1, jarred().whose(10, 0));
        Check.due("keeper -1", -1, jarred().whose(-1, 0));
        Check.due("what 4", -1, jarred().whose(3, 4));
        Check.due("what -1", -1, jarred().whose(3, -1));
    }

    private static void whose(String at, HoneyHouse x, int keeper, long... due) {
        for (int what = 0; what <= 3; what++) {
            Check.due(at + ", whose " + keeper + " " + what, due[what], x.whose(keeper, what));
        }
    }

    private static void whoseOfEach() {
        HoneyHouse x = house();
        whose("at first", x, 4, 50, 0, 0, 0);
        x.pour(1, 0, 50);
        whose("poured", x, 4, 0, 50, 0, 0);
        x.move(0, 1, 20);
        whose("moved", x, 4, 0, 50, 0, 0);
        x.jar(0, 30);
        whose("jarred", x, 4, 0, 20, 30, 0);
        x.spill(1, 19);
        whose("spilled", x, 4, 0, 1, 30, 19);
        x.spill(1, 1);
        whose("nothing stays", x, 4, 0, 0, 30, 20);
        whose("another keeper", x, 3, 130, 0, 0, 0);
        whose("a keeper without lots", x, 0, 0, 0, 0, 0);
        x.lot(9, 12, 150, 0, 0);
        whose("the last keeper", x, 9, 12, 0, 0, 0);
    }

    private static void whoseAddsUpToAll() {
        HoneyHouse x = house();
        x.pour(0, 0, 60);
        x.pour(1, 0, 33);
        x.pour(2, 1, 29);
        x.move(0, 1, 17);
        x.jar(1, 13);
        x.spill(0, 11);
        x.spill(1, 7);
        for (int keeper = 3; keeper <= 4; keeper++) {
            long sum = 0;
            for (int what = 0; what <= 3; what++) {
                sum += x.whose(keeper, what);
            }
            Check.due("all of " + keeper, keeper == 3 ? 130 : 50, sum);
        }
        Check.due("gone of both", 18, x.whose(3, 3) + x.whose(4, 3));
        Check.due("in batches of both", 13, x.whose(3, 2) + x.whose(4, 2));
    }

    private static void whoseOfSeveralLots() {
        HoneyHouse x = house();
        x.pour(0, 0, 60);
        x.pour(2, 1, 30);
        x.move(0, 1, 20);
        x.jar(0, 15);
        x.jar(1, 5);
        x.spill(1, 7);
        whose("of two lots", x, 3, 40, 63, 20, 7);
    }

    private static void whoseAtItsUtmost() {
        HoneyHouse x = new HoneyHouse();
        for (int k = 0; k < 40; k++) {
            x.lot(0, 200000, 100, 0, 0);
        }
        Check.due("40 lots", 8000000, x.whose(0, 0));
        x.tank(0, 1000000, 0);
        x.pour(39, 0, 200000);
        whose("the last lot", x, 0, 7800000, 200000, 0, 0);
    }
}
