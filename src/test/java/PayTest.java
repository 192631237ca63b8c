/** Promises 7, 24 and 25: steps of pay, later tests, what keepers were paid. */
public final class PayTest {
    private static final int NO_TEST = -1000000000;

    public static void main(String[] args) {
        stepsThatCannotBe();
        firstStepThatIsNotPassed();
        stepsStayTheLotsOwn();
        laterTests();
        keepers();
        Check.finish();
    }

    private static void stepsThatCannotBe() {
        HoneyHouse x = new HoneyHouse();
        Check.due("step -1", false, x.step(-1, 0, 0));
        Check.due("step 4", false, x.step(4, 0, 0));
        Check.due("water -1", false, x.step(0, -1, 0));
        Check.due("water 301", false, x.step(0, 301, 0));
        Check.due("price -1", false, x.step(0, 300, -1));
        Check.due("price 100001", false, x.step(0, 300, 100001));
        x.lot(0, 200000, 100, 0, 0);
        Check.due("no step holds", 0, x.of(0, 6));
        Check.due("most", true, x.step(3, 300, 100000));
        Check.due("least", true, x.step(2, 0, 0));
        x.lot(0, 200000, 300, 0, 0);
        Check.due("most pay", 20000000, x.of(1, 6));
        Check.due("paid", 20000000, x.paid(0));
    }

    private static void firstStepThatIsNotPassed() {
        HoneyHouse x = new HoneyHouse();
        x.step(0, 170, 3000);
        x.step(1, 250, 100);
        x.step(2, 200, 2000);
        x.step(3, 260, 999);
        int[] water = {170, 171, 200, 250, 251, 260, 261};
        int[] pay = {3003, 100, 100, 100, 999, 999, 0};
        for (int k = 0; k < water.length; k++) {
            x.lot(0, 1001, water[k], 0, 0);
            Check.due("pay of water " + water[k], pay[k], x.of(k, 6));
        }
    }

    private static void stepsStayTheLotsOwn() {
        HoneyHouse x = new HoneyHouse();
        x.step(0, 180, 1000);
        x.lot(0, 1000, 170, 0, 0);
        x.step(0, 180, 5000);
        Check.due("paid by its own steps", 1000, x.of(0, 6));
        Check.due("test with its own steps", -1000, x.test(0, 181));
        Check.due("and back", 1000, x.test(0, 180));
        x.lot(0, 1000, 170, 0, 0);
        Check.due("the next lot", 5000, x.of(1, 6));
    }

    private static void laterTests() {
        HoneyHouse x = new HoneyHouse();
        x.step(0, 150, 2000);
        x.step(1, 200, 1500);
        x.lot(4, 999, 160, 0, 0);
        Check.due("paid", 1498, x.of(0, 6));
        Check.due("better", 500, x.test(0, 150));
        Check.due("water", 150, x.of(0, 2));
        Check.due("paid then", 1998, x.of(0, 6));
        Check.due("like", 0, x.test(0, 100));
        Check.due("worse", -1998, x.test(0, 300));
        Check.due("nothing", 0, x.of(0, 6));
        Check.due("water 99", NO_TEST, x.test(0, 99));
        Check.due("water 301", NO_TEST, x.test(0, 301));
        Check.due("lot 1", NO_TEST, x.test(1, 150));
        Check.due("lot -1", NO_TEST, x.test(-1, 150));
        Check.due("water stays", 300, x.of(0, 2));
    }

    private static void keepers() {
        HoneyHouse x = new HoneyHouse();
        x.step(0, 300, 100000);
        for (int k = 0; k < 40; k++) {
            x.lot(k % 2 == 0 ? 9 : 1, 200000, 200, 0, 0);
        }
        Check.due("paid 9", 400000000L, x.paid(9));
        Check.due("paid 1", 400000000L, x.paid(1));
        Check.due("paid 0", 0, x.paid(0));
        Check.due("paid 10", -1, x.paid(10));
        Check.due("paid -1", -1, x.paid(-1));
    }
}
