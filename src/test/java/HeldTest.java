/** Promises 16 to 18, with term II: what tanks and batches hold, and its measures. */
public final class HeldTest {
    public static void main(String[] args) {
        holdsOfATank();
        holdsOfAnEmptyTank();
        holdsOfABatch();
        holdsOfOthers();

        partOfATankAndABatch();
        partOfOthers();

        measuresAreRoundedDown();
        measuresOfPollen();
        measuresOfLand();
        measureOfHeat();
        measuresAtTheirUtmost();
        measuresOfABatch();
        measuresByLaterTests();
        measureOfNothing();
        measureOfOthers();
        Check.finish();
    }

    /** As Houses.mixed(), and batch 0 of 1 gram of lot 0. */
    private static HoneyHouse withBatch() {
        HoneyHouse x = Houses.mixed();
        x.warm(0, 6);
        x.today(4);
        x.jar(0, 1);
        return x;
    }

    // ---- Promise 16

    private static void holdsOfATank() {
        HoneyHouse x = withBatch();
        int[] due = {10, 3, 6, 1000, 7};
        for (int what = 0; what <= 4; what++) {
            Check.due("tank " + what, due[what], x.holds(0, 0, what));
        }
        x.spill(0, 9);
        Check.due("lots in one gram", 1, x.holds(0, 0, 1));
        Check.due("one gram", 1, x.holds(0, 0, 0));
    }

    private static void holdsOfAnEmptyTank() {
        HoneyHouse x = withBatch();
        int[] due = {0, 0, 0, 1000, 8};
        for (int what = 0; what <= 4; what++) {
            Check.due("empty tank " + what, due[what], x.holds(0, 1, what));
        }
        x.spill(0, 10);
        Check.due("emptied", 0, x.holds(0, 0, 0));
        Check.due("lots in it", 0, x.holds(0, 0, 1));
        Check.due("its heat", 0, x.holds(0, 0, 2));
        Check.due("its room stays", 1000, x.holds(0, 0, 3));
        Check.due("its price stays", 7, x.holds(0, 0, 4));
    }

    private static void holdsOfABatch() {
        HoneyHouse x = withBatch();
        int[] due = {1, 1, 6, 0, 4};
        for (int what = 0; what <= 4; what++) {
            Check.due("batch " + what, due[what], x.holds(1, 0, what));
        }
    }

    private static void holdsOfOthers() {
        Check.range("holds where", 0, 1, n -> withBatch().holds(n, 0, 0) != -1);
        Check.range("holds tank", 0, 9, n -> withBatch().holds(0, n, 0) != -1);
        Check.range("holds batch", 0, 0, n -> withBatch().holds(1, n, 0) != -1);
        Check.range("holds what of a tank", 0, 4, n -> withBatch().holds(0, 0, n) != -1);
        Check.range("holds what of a batch", 0, 4, n -> withBatch().holds(1, 0, n) != -1);
        int[][] none = {{0, 10, 0}, {0, -1, 0}, {1, 1, 0}, {1, -1, 0}, {1, 9, 0}, {2, 0, 0},
            {-1, 0, 0}, {0, 0, 5}, {0, 0, -1}, {1, 0, 5}, {1, 0, -1}};
        for (int[] n : none) {
            Check.due("holds " + n[0] + " " + n[1] + " " + n[2], -1,
                withBatch().holds(n[0], n[1], n[2]));
        }
        Check.due("ahead of any batch", -1, Houses.mixed().holds(1, 0, 0));
    }

    // ---- Promise 17

    private static void partOfATankAndABatch() {
        HoneyHouse x = withBatch();
        Houses.parts("tank", x, 0, 0, 4, 3, 3);
        Houses.parts("batch", x, 1, 0, 1, 0, 0);
        Houses.parts("empty tank", x, 0, 1, 0, 0, 0);
        Houses.parts("tank without room", x, 0, 9, 0, 0, 0);
    }

    private static void partOfOthers() {
        Check.range("part where", 0, 1, n -> withBatch().part(n, 0, 0) != -1);
        Check.range("part tank", 0, 9, n -> withBatch().part(0, n, 0) != -1);
        Check.range("part batch", 0, 0, n -> withBatch().part(1, n, 0) != -1);
        Check.range("part lot of a tank", 0, 2, n -> withBatch().part(0, 0, n) != -1);
        Check.range("part lot of a batch", 0, 2, n -> withBatch().part(1, 0, n) != -1);
        Check.due("part lot 3", -1, withBatch().part(0, 0, 3));
        Check.due("part lot -1", -1, withBatch().part(0, 0, -1));
        Check.due("part tank 10", -1, withBatch().part(0, 10, 0));
        Check.due("part batch 1", -1, withBatch().part(1, 1, 0));
        Check.due("part where 2", -1, withBatch().part(2, 0, 0));
        Check.due("part of no lots", -1, new HoneyHouse().part(0, 0, 0));
    }

    // ---- Promise 18

    private static void measuresAreRoundedDown() {
        HoneyHouse x = Houses.mixed();
        // 5 * 150 + 3 * 200 + 3 * 250 = 2100 over 11; 5 * 10 + 3 * 20 + 3 * 31 = 203 over 11.
        Check.due("water", 1909, x.measure(0, 0, 0));
        Check.due("colour", 184, x.measure(0, 0, 1));
        HoneyHouse y = new HoneyHouse();
        y.lot(0, 9, 150, 50, 0);
        y.lot(0, 2, 151, 51, 0);
        y.tank(0, 20, 0);
        y.pour(0, 0, 9);
        Check.due("whole", 1500, y.measure(0, 0, 0));
        y.pour(1, 0, 1);
        Check.due("a tenth", 1501, y.measure(0, 0, 0));
        Check.due("a tenth of colour", 501, y.measure(0, 0, 1));
        y.pour(1, 0, 1);
        // 2 of 11 is 1.8 tenths.
        Check.due("below two tenths", 1501, y.measure(0, 0, 0));
        Check.due("below two tenths of colour", 501, y.measure(0, 0, 1));
    }

    private static void measuresOfPollen() {
        HoneyHouse x = Houses.mixed();
        x.pollen(0, 2, 100, 300);
        x.pollen(1, 2, 401, 402);
        // 500 + 1203 = 1703 over 11; 1500 + 1206 + 3000 = 5706 over 11.
        Check.due("low 2", 1548, x.measure(0, 0, 12));
        Check.due("high 2", 5187, x.measure(0, 0, 22));
        for (int kind = 0; kind <= 4; kind++) {
            if (kind != 2) {
                Check.due("low " + kind, 0, x.measure(0, 0, 10 + kind));
                Check.due("high " + kind, 10000, x.measure(0, 0, 20 + kind));
            }
        }
        x.pollen(0, 0, 1, 1000);
        x.pollen(0, 4, 2, 999);
        Check.due("low of the first kind", 4, x.measure(0, 0, 10));
        Check.due("low of the last kind", 9, x.measure(0, 0, 14));
        Check.due("high of the last kind", 9995, x.measure(0, 0, 24));
    }

    private static void measuresOfLand() {
        HoneyHouse x = Houses.mixed();
        Check.due("land 0", 4545, x.measure(0, 0, 30));
        Check.due("land 1", 5454, x.measure(0, 0, 31));
        Check.due("land 2", 0, x.measure(0, 0, 32));
        Check.due("land 3", 0, x.measure(0, 0, 33));
        x.lot(0, 11, 100, 0, 3);
        x.pour(3, 0, 11);
        Check.due("half is of land 3", 5000, x.measure(0, 0, 33));
    }

    private static void measureOfHeat() {
        HoneyHouse x = Houses.mixed();
        Check.due("no heat", 0, x.measure(0, 0, 2));
        x.warm(0, 9);
        Check.due("heat itself", 9, x.measure(0, 0, 2));
    }

    private static void measuresAtTheirUtmost() {
        HoneyHouse x = new HoneyHouse();
        x.tank(0, 1000000, 0);
        for (int k = 0; k < 5; k++) {
            x.lot(0, 200000, 300, 140, 2);
            x.pollen(k, 1, 1000, 1000);
            x.pour(k, 0, 200000);
        }
        Check.due("most water", 3000, x.measure(0, 0, 0));
        Check.due("most colour", 1400, x.measure(0, 0, 1));
        Check.due("most low", 10000, x.measure(0, 0, 11));
        Check.due("most high", 10000, x.measure(0, 0, 21));
        Check.due("most land", 10000, x.measure(0, 0, 32));
        HoneyHouse y = Houses.holding(1);
        Check.due("least water, of one gram", 1000, y.measure(0, 0, 0));
        Check.due("least colour", 0, y.measure(0, 0, 1));
    }

    private static void measuresOfABatch() {
        HoneyHouse x = Houses.mixed();
        x.warm(0, 9);
        x.jar(0, 11);
        Check.due("batch water", 1909, x.measure(1, 0, 0));
        Check.due("batch colour", 184, x.measure(1, 0, 1));
        Check.due("batch heat", 9, x.measure(1, 0, 2));
        Check.due("batch land 0", 4545, x.measure(1, 0, 30));
        Check.due("the tank is empty", -1, x.measure(0, 0, 0));
    }

    private static void measuresByLaterTests() {
        HoneyHouse x = Houses.mixed();
        x.jar(0, 11);
        x.test(0, 161);
        x.pollen(1, 3, 11, 901);
        Check.due("water, tested", 1959, x.measure(1, 0, 0));
        Check.due("low, tested", 30, x.measure(1, 0, 13));
        Check.due("high, tested", 9730, x.measure(1, 0, 23));
    }

    private static void measureOfNothing() {
        HoneyHouse x = Houses.mixed();
        int[] whats = {0, 1, 2, 10, 14, 20, 24, 30, 33};
        for (int what : whats) {
            Check.due("of 0 grams " + what, -1, x.measure(0, 1, what));
            Check.due("of some grams " + what, true, x.measure(0, 0, what) >= 0);
        }
        x.spill(0, 11);
        Check.due("emptied", -1, x.measure(0, 0, 0));
        Check.due("heat of an emptied one", -1, x.measure(0, 0, 2));
    }

    private static void measureOfOthers() {
        Check.range("measure where", 0, 1, n -> withBatch().measure(n, 0, 0) != -1);
        Check.range("measure tank", 0, 0, n -> withBatch().measure(0, n, 0) != -1);
        Check.range("measure batch", 0, 0, n -> withBatch().measure(1, n, 0) != -1);
        Check.range("measure of water, colour, heat", 0, 2, n -> withBatch().measure(0, 0, n) != -1);
        Check.range("measure of lows", 10, 14, n -> withBatch().measure(0, 0, n) != -1);
        Check.range("measure of highs", 20, 24, n -> withBatch().measure(0, 0, n) != -1);
        Check.range("measure of lands", 30, 33, n -> withBatch().measure(0, 0, n) != -1);
        int[] none = {-1, 3, 9, 15, 19, 25, 29, 34, 40};
        for (int what : none) {
            Check.due("measure " + what, -1, withBatch().measure(0, 0, what));
            Check.due("batch measure " + what, -1, withBatch().measure(1, 0, what));
        }
        Check.due("tank 10", -1, withBatch().measure(0, 10, 0));
        Check.due("batch 1", -1, withBatch().measure(1, 1, 0));
        Check.due("where 2", -1, withBatch().measure(2, 0, 0));
    }
}
