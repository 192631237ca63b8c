/** Promises 7, 24 and 25: steps of pay, later tests, what keepers were paid. */
public final class PayTest {
    private static final int NO_TEST = -1000000000;

    public static void main(String[] args) {
        testEdges();
        testOfNoLot();
        testAtAStepsWater();
        testTellsTheDifference();
        testPaysByTheLotsOwnSteps();
        testRefusedDoesNothing();
        testCountsForWhatWasPoured();

        stepEdges();
        stepRefusedDoesNothing();
        stepIsFromNowOn();
        firstStepInOrderThatIsNotPassed();
        passesAll();
        payIsRoundedDown();
        mostPay();

        paidEdges();
        paidInAll();
        Check.finish();
    }

    private static HoneyHouse oneLot() {
        HoneyHouse x = new HoneyHouse();
        x.step(0, 150, 2000);
        x.step(1, 200, 1500);
        x.lot(4, 999, 160, 0, 0);
        return x;
    }

    // ---- Promise 7

    private static void testEdges() {
        Check.range("test of water", 100, 300, n -> oneLot().test(0, n) != NO_TEST);
        Check.range("test of lot", 0, 0, n -> oneLot().test(n, 160) != NO_TEST);
        Check.due("water 99", NO_TEST, oneLot().test(0, 99));
        Check.due("water 301", NO_TEST, oneLot().test(0, 301));
        Check.due("water 100", 500, oneLot().test(0, 100));
        Check.due("water 300", -1498, oneLot().test(0, 300));
    }

    private static void testOfNoLot() {
        Check.due("no lots", NO_TEST, new HoneyHouse().test(0, 150));
        Check.due("lot 1 of 1", NO_TEST, oneLot().test(1, 150));
        Check.due("lot -1", NO_TEST, oneLot().test(-1, 150));
    }

    private static void testAtAStepsWater() {
        Check.due("at the first step", 500, oneLot().test(0, 150));
        Check.due("passed the first step", 0, oneLot().test(0, 151));
        Check.due("at the second step", 0, oneLot().test(0, 200));
        Check.due("passed the second step", -1498, oneLot().test(0, 201));
    }

    private static void testTellsTheDifference() {
        HoneyHouse x = oneLot();
        Check.due("paid", 1498, x.of(0, 6));
        Check.due("better", 500, x.test(0, 150));
        Check.due("water", 150, x.of(0, 2));
        Check.due("paid then", 1998, x.of(0, 6));
        Check.due("the keeper was paid", 1998, x.paid(4));
        Check.due("like", 0, x.test(0, 100));
        Check.due("the same", 0, x.test(0, 100));
        Check.due("worse", -1998, x.test(0, 300));
        Check.due("nothing", 0, x.of(0, 6));
        Check.due("the keeper gave it back", 0, x.paid(4));
        Check.due("grams stay", 999, x.of(0, 1));
    }

    private static void testPaysByTheLotsOwnSteps() {
        HoneyHouse x = new HoneyHouse();
        x.lot(0, 1000, 170, 0, 0);
        x.step(0, 180, 1000);
        x.lot(0, 1000, 170, 0, 0);
        x.step(0, 180, 5000);
        x.step(1, 300, 7000);
        Check.due("no step when it came", 0, x.test(0, 100));
        Check.due("passes its own step", -1000, x.test(1, 181));
        Check.due("and back", 1000, x.test(1, 180));
        x.lot(0, 1000, 170, 0, 0);
        Check.due("the next lot", 2000, x.test(2, 181));
    }

    private static void testRefusedDoesNothing() {
        HoneyHouse x = oneLot();
        x.test(0, 301);
        x.test(0, 99);
        x.test(1, 100);
        Check.due("water stays", 160, x.of(0, 2));
        Check.due("pay stays", 1498, x.of(0, 6));
    }

    private static void testCountsForWhatWasPoured() {
        HoneyHouse x = oneLot();
        x.tank(0, 1000, 0);
        x.pour(0, 0, 999);
        x.jar(0, 9);
        Check.due("test of what is poured", 500, x.test(0, 140));
        Check.due("in the tank", 1400, x.measure(0, 0, 0));
        Check.due("in the batch", 1400, x.measure(1, 0, 0));
    }

    // ---- Promise 24

    private static void stepEdges() {
        Check.range("step", 0, 3, n -> new HoneyHouse().step(n, 0, 0));
        Check.range("step's water", 0, 300, n -> new HoneyHouse().step(0, n, 0));
        Check.range("step's price", 0, 100000, n -> new HoneyHouse().step(0, 0, n));
    }

    private static void stepRefusedDoesNothing() {
        int[][] refused = {{-1, 300, 9000}, {4, 300, 9000}, {0, -1, 9000}, {0, 301, 9000},
            {0, 250, -1}, {0, 250, 100001}};
        for (int[] r : refused) {
            HoneyHouse x = new HoneyHouse();
            for (int k = 0; k < 4; k++) {
                x.step(k, 200 + k, 1000 + k);
            }
            Check.due("step " + r[0] + " " + r[1] + " " + r[2], false, x.step(r[0], r[1], r[2]));
            for (int k = 0; k < 5; k++) {
                x.lot(0, 1000, 200 + k, 0, 0);
                Check.due("pay of water " + (200 + k), k < 4 ? 1000 + k : 0, x.of(k, 6));
            }
        }
    }

    private static void stepIsFromNowOn() {
        HoneyHouse x = new HoneyHouse();
        x.lot(0, 1000, 170, 0, 0);
        x.step(0, 180, 1000);
        x.lot(0, 1000, 170, 0, 0);
        x.step(0, 180, 5000);
        x.lot(0, 1000, 170, 0, 0);
        Check.due("ahead of any step", 0, x.of(0, 6));
        Check.due("by the first step", 1000, x.of(1, 6));
        Check.due("by the next one", 5000, x.of(2, 6));
        Check.due("in all", 6000, x.paid(0));
    }

    private static void firstStepInOrderThatIsNotPassed() {
        HoneyHouse x = new HoneyHouse();
        x.step(0, 170, 3000);
        x.step(1, 250, 100);
        x.step(2, 200, 2000);
        x.step(3, 260, 999);
        int[] water = {170, 171, 200, 250, 251, 260, 261};
        int[] pay = {3003, 100, 100, 100, 999, 999, 0};
        for (int k = 0; k < water.length; k++) {
            x.lot(0, 1001, water[k], 0, 0);
            Check.due("pay of water " + water[k], pay[k], x.of(k, 6));
        }
    }

    private static void passesAll() {
        HoneyHouse x = new HoneyHouse();
        for (int k = 0; k < 4; k++) {
            x.step(k, 299, 1000);
        }
        x.lot(0, 1000, 299, 0, 0);
        x.lot(0, 1000, 300, 0, 0);
        Check.due("passes none", 1000, x.of(0, 6));
        Check.due("passes all", 0, x.of(1, 6));
        x.step(3, 300, 700);
        x.lot(0, 1000, 300, 0, 0);
        Check.due("not the last one", 700, x.of(2, 6));
    }

    private static void payIsRoundedDown() {
        HoneyHouse x = new HoneyHouse();
        x.step(0, 300, 1);
        int[] grams = {1, 999, 1000, 1999, 2000};
        int[] pay = {0, 0, 1, 1, 2};
        for (int k = 0; k < grams.length; k++) {
            x.lot(0, grams[k], 100, 0, 0);
            Check.due("pay of grams " + grams[k], pay[k], x.of(k, 6));
        }
    }

    private static void mostPay() {
        HoneyHouse x = new HoneyHouse();
        x.step(3, 300, 100000);
        x.lot(0, 200000, 300, 0, 0);
        Check.due("most pay", 20000000, x.of(0, 6));
        x.step(0, 299, 0);
        x.lot(0, 200000, 300, 0, 0);
        Check.due("most taken back", -20000000, x.test(1, 299));
        Check.due("most paid more", 20000000, x.test(1, 300));
    }

    // ---- Promise 25

    private static void paidEdges() {
        Check.range("paid", 0, 9, n -> oneLot().paid(n) != -1);
        Check.due("paid -1", -1, oneLot().paid(-1));
        Check.due("paid 10", -1, oneLot().paid(10));
    }

    private static void paidInAll() {
        HoneyHouse x = new HoneyHouse();
        Check.due("no lots", 0, x.paid(9));
        x.step(0, 300, 100000);
        for (int k = 0; k < 40; k++) {
            x.lot(k % 4 == 0 ? 0 : 9, 200000, 200, 0, 0);
        }
        Check.due("paid 9", 600000000L, x.paid(9));
        Check.due("paid 0", 200000000L, x.paid(0));
        Check.due("paid 1", 0, x.paid(1));
    }
}
