/** Promises 26 and 27, with term V: the cheapest blend, and its parts. */
public final class BlendTest {
    public static void main(String[] args) {
        blendEdges();
        oneToFourTanks();
        tanksThatAreNone();
        emptyTanks();
        leastAboveMost();
        wholeThousandsAlone();
        lessThanAThousand();
        waterAtMost();
        colourFromLeastToMost();
        toldNumbersCount();
        leastPrice();
        noPrice();
        fewerPartsOfTheFirstTank();
        dearestOfAll();
        fourTanks();
        blendDrawsNothing();

        partsEdges();
        partsAheadOfAny();
        partsStayAfterARefusal();
        partsStayWithoutABlend();
        partsOfTheLatest();
        partsOfTanksNotAsked();
        Check.finish();
    }

    private static void fill(HoneyHouse x, int tank, int[] gramsWaterColourPrice) {
        int[] it = gramsWaterColourPrice;
        int lot = x.lot(0, it[0], it[1], it[2], 0);
        x.tank(tank, 1000000, it[3]);
        x.pour(lot, tank, it[0]);
    }

    private static HoneyHouse house(int[]... tanks) {
        HoneyHouse x = new HoneyHouse();
        for (int k = 0; k < tanks.length; k++) {
            fill(x, k, tanks[k]);
        }
        return x;
    }

    /** All ten tanks hold 50 parts of water 150 and colour 50, for 1 each. */
    private static HoneyHouse allFull() {
        HoneyHouse x = new HoneyHouse();
        for (int k = 0; k < 10; k++) {
            fill(x, k, new int[] {50000, 150, 50, 1});
        }
        return x;
    }

    private static void parts(String at, HoneyHouse x, int... due) {
        for (int tank = 0; tank < 10; tank++) {
            Check.due(at + ", parts of " + tank, tank < due.length ? due[tank] : 0, x.parts(tank));
        }
    }

    // ---- Promise 26

    private static void blendEdges() {
        Check.range("parts", 1, 40, n -> allFull().blend(1, n, 300, 0, 140) == n);
        Check.range("water", 0, 300, n -> allFull().blend(1, 1, n, 0, 140) != -1);
        Check.range("least", 0, 140, n -> allFull().blend(1, 1, 300, n, 140) != -1);
        Check.range("most", 0, 140, n -> allFull().blend(1, 1, 300, 0, n) != -1);
        HoneyHouse x = allFull();
        Check.due("parts 0", -1, x.blend(1, 0, 300, 0, 140));
        Check.due("parts 41", -1, x.blend(1, 41, 300, 0, 140));
        Check.due("water -1", -1, x.blend(1, 1, -1, 0, 140));
        Check.due("water 301", -1, x.blend(1, 1, 301, 0, 140));
        Check.due("least -1", -1, x.blend(1, 1, 300, -1, 140));
        Check.due("least 141", -1, x.blend(1, 1, 300, 141, 140));
        Check.due("most -1", -1, x.blend(1, 1, 300, 0, -1));
        Check.due("most 141", -1, x.blend(1, 1, 300, 0, 141));
        Check.due("water 0", -2, x.blend(1, 1, 0, 0, 140));
        Check.due("most 0", -2, x.blend(1, 1, 300, 0, 0));
        Check.due("least 140", -2, x.blend(1, 1, 300, 140, 140));
    }

    private static void oneToFourTanks() {
        HoneyHouse x = allFull();
        Check.due("no tank", -1, x.blend(0, 1, 300, 0, 140));
        Check.due("one tank", 1, x.blend(0x010, 1, 300, 0, 140));
        Check.due("two tanks", 1, x.blend(0x210, 1, 300, 0, 140));
        Check.due("three tanks", 1, x.blend(0x211, 1, 300, 0, 140));
        Check.due("four tanks", 1, x.blend(0x219, 1, 300, 0, 140));
        Check.due("five tanks", -1, x.blend(0x21d, 1, 300, 0, 140));
        Check.due("all tanks", -1, x.blend(0x3ff, 1, 300, 0, 140));
    }

    private static void tanksThatAreNone() {
        HoneyHouse x = allFull();
        for (int tank = 0; tank < 32; tank++) {
            Check.due("tank " + tank, tank < 10 ? 1 : -1, x.blend(1 << tank, 1, 300, 0, 140));
            if (tank >= 10) {
                Check.due("tank 0 and " + tank, -1, x.blend(1 | 1 << tank, 1, 300, 0, 140));
            }
        }
        Check.due("all bits", -1, x.blend(-1, 1, 300, 0, 140));
        Check.due("all bits but one", -1, x.blend(Integer.MAX_VALUE, 1, 300, 0, 140));
    }

    private static void emptyTanks() {
        HoneyHouse x = allFull();
        x.spill(0, 50000);
        x.spill(9, 50000);
        Check.due("the first one is empty", -1, x.blend(3, 1, 300, 0, 140));
        Check.due("the last one is empty", -1, x.blend(0x201 + 1, 1, 300, 0, 140));
        Check.due("an empty one alone", -1, x.blend(1, 1, 300, 0, 140));
        Check.due("none is empty", 1, x.blend(6, 1, 300, 0, 140));
        Check.due("a tank without room", -1, new HoneyHouse().blend(1, 1, 300, 0, 140));
        x.lot(0, 1, 150, 50, 0);
        x.pour(10, 0, 1);
        Check.due("one gram is not empty", 1, x.blend(3, 1, 300, 0, 140));
        parts("one gram", x, 0, 1);
    }

    private static void leastAboveMost() {
        HoneyHouse x = allFull();
        Check.due("least is most", 1, x.blend(1, 1, 300, 50, 50));
        Check.due("least above most", -2, x.blend(1, 1, 300, 51, 50));
        Check.due("least above most at their utmost", -2, x.blend(1, 1, 300, 140, 0));
    }

    private static void wholeThousandsAlone() {
        HoneyHouse x = house(new int[] {1999, 150, 20, 10}, new int[] {9000, 200, 80, 1});
        Check.due("no limit", 9, x.blend(3, 9, 300, 0, 140));
        parts("no limit", x, 0, 9);
        Check.due("1999 is one part", 19, x.blend(3, 10, 300, 0, 140));
        parts("1999 is one part", x, 1, 9);
        Check.due("no two parts", -2, x.blend(3, 11, 300, 0, 140));
        x.lot(0, 1, 150, 20, 0);
        x.pour(2, 0, 1);
        Check.due("2000 is two parts", 29, x.blend(3, 11, 300, 0, 140));
        parts("2000 is two parts", x, 2, 9);
    }

    private static void lessThanAThousand() {
        HoneyHouse x = house(new int[] {999, 150, 50, 1}, new int[] {1000, 150, 50, 2});
        Check.due("999 alone", -2, x.blend(1, 1, 300, 0, 140));
        Check.due("1000 alone", 2, x.blend(2, 1, 300, 0, 140));
        Check.due("both", 2, x.blend(3, 1, 300, 0, 140));
        parts("both", x, 0, 1);
        Check.due("two parts of both", -2, x.blend(3, 2, 300, 0, 140));
    }

    private static void waterAtMost() {
        HoneyHouse x = house(new int[] {9000, 150, 20, 10}, new int[] {9000, 200, 80, 1});
        Check.due("just so", 11, x.blend(3, 2, 175, 0, 140));
        parts("just so", x, 1, 1);
        Check.due("one less", 20, x.blend(3, 2, 174, 0, 140));
        parts("one less", x, 2, 0);
        Check.due("the driest", 20, x.blend(3, 2, 150, 0, 140));
        Check.due("drier than all", -2, x.blend(3, 2, 149, 0, 140));
        Check.due("the wettest", 2, x.blend(3, 2, 200, 0, 140));
        Check.due("one below the wettest", 11, x.blend(3, 2, 199, 0, 140));
    }

    private static void colourFromLeastToMost() {
        HoneyHouse x = house(new int[] {9000, 150, 20, 10}, new int[] {9000, 200, 80, 1});
        Check.due("just so", 11, x.blend(3, 2, 300, 50, 50));
        Check.due("most just so", 11, x.blend(3, 2, 300, 0, 50));
        Check.due("most one less", 20, x.blend(3, 2, 300, 0, 49));
        Check.due("most at the lightest", 20, x.blend(3, 2, 300, 0, 20));
        Check.due("lighter than all", -2, x.blend(3, 2, 300, 0, 19));
        Check.due("between", -2, x.blend(3, 2, 300, 21, 49));
        Check.due("between again", -2, x.blend(3, 2, 300, 51, 79));
        Check.due("least at the darkest", 2, x.blend(3, 2, 300, 80, 140));
        Check.due("darker than all", -2, x.blend(3, 2, 300, 81, 140));
        HoneyHouse y = house(new int[] {9000, 150, 20, 1}, new int[] {9000, 200, 80, 10});
        Check.due("least just so", 11, y.blend(3, 2, 300, 50, 140));
        Check.due("least one more", 20, y.blend(3, 2, 300, 51, 140));
    }

    private static void toldNumbersCount() {
        // Water 150 and colour 50 of 1999 grams, one more of 1 gram: told as 1500 and 500.
        HoneyHouse x = new HoneyHouse();
        x.lot(0, 1999, 150, 50, 0);
        x.lot(0, 1, 151, 51, 0);
        x.tank(7, 3000, 9);
        x.pour(0, 7, 1999);
        x.pour(1, 7, 1);
        Check.due("told", 18, x.blend(128, 2, 150, 50, 50));
        Check.due("its parts", 2, x.parts(7));
        // 1000 grams of 150 and 1 of 250 are 150.0999: told as 1500; with 2 it is 1501.
        HoneyHouse y = house(new int[] {1000, 150, 50, 1});
        y.lot(0, 2, 250, 50, 0);
        y.pour(1, 0, 1);
        Check.due("told below a tenth", 1, y.blend(1, 1, 150, 0, 140));
        y.pour(1, 0, 1);
        Check.due("told a tenth", -2, y.blend(1, 1, 150, 0, 140));
        Check.due("told a tenth, one more", 1, y.blend(1, 1, 151, 0, 140));
    }

    private static void leastPrice() {
        HoneyHouse x = house(new int[] {9000, 150, 50, 3}, new int[] {9000, 150, 50, 2},
            new int[] {9000, 150, 50, 4});
        Check.due("the cheapest one", 18, x.blend(7, 9, 300, 0, 140));
        parts("the cheapest one", x, 0, 9, 0);
        Check.due("and the next one", 21, x.blend(7, 10, 300, 0, 140));
        parts("and the next one", x, 1, 9, 0);
        x.tank(2, 9000, 1);
        Check.due("by the price of now", 9, x.blend(7, 9, 300, 0, 140));
        parts("by the price of now", x, 0, 0, 9);
    }

    private static void noPrice() {
        HoneyHouse x = house(new int[] {9000, 150, 50, 0}, new int[] {9000, 150, 50, 0});
        Check.due("price 0", 0, x.blend(3, 9, 300, 0, 140));
        parts("price 0", x, 0, 9);
    }

    private static void fewerPartsOfTheFirstTank() {
        HoneyHouse x = house(new int[] {40000, 150, 50, 5}, new int[] {40000, 150, 50, 5},
            new int[] {3000, 150, 50, 5}, new int[] {2000, 150, 50, 5});
        Check.due("like prices", 50, x.blend(15, 10, 300, 0, 140));
        parts("like prices", x, 0, 5, 3, 2);
        Check.due("of two", 50, x.blend(9, 10, 300, 0, 140));
        parts("of two", x, 8, 0, 0, 2);
        Check.due("of one", 50, x.blend(2, 10, 300, 0, 140));
        parts("of one", x, 0, 10);
        Check.due("of three", 50, x.blend(13, 10, 300, 0, 140));
        parts("of three", x, 5, 0, 3, 2);
        // Of colour 50 alone: 1 + 1 of the first and third, or 2 of the second, for 4 each.
        HoneyHouse z = house(new int[] {2000, 150, 40, 1}, new int[] {2000, 150, 50, 2},
            new int[] {2000, 150, 60, 3});
        Check.due("both ways cost 4", 4, z.blend(7, 2, 300, 50, 50));
        parts("fewer of the first tank", z, 0, 2, 0);
    }

    private static void dearestOfAll() {
        HoneyHouse x = house(new int[] {50000, 300, 140, 10000}, new int[] {50000, 300, 140, 10000},
            new int[] {50000, 300, 140, 10000}, new int[] {50000, 300, 140, 10000});
        Check.due("dearest", 400000, x.blend(15, 40, 300, 140, 140));
        parts("dearest", x, 0, 0, 0, 40);
    }

    private static void fourTanks() {
        HoneyHouse x = house(new int[] {1000, 160, 10, 9}, new int[] {1000, 170, 20, 9},
            new int[] {2000, 200, 60, 2}, new int[] {2000, 220, 90, 1});
        // All six: water 160 + 170 + 400 + 440 = 1170, colour 10 + 20 + 120 + 180 = 330.
        Check.due("all", 24, x.blend(15, 6, 195, 55, 55));
        parts("all", x, 1, 1, 2, 2);
        Check.due("one more than all", -2, x.blend(15, 7, 300, 0, 140));
        Check.due("too wet", -2, x.blend(15, 6, 194, 0, 140));
        Check.due("too dark", -2, x.blend(15, 6, 300, 0, 54));
        Check.due("too light", -2, x.blend(15, 6, 300, 56, 140));
        // The third and fourth alone: 2 + 2 parts have water 840 and colour 300.
        Check.due("the cheap ones", 6, x.blend(15, 4, 210, 75, 75));
        parts("the cheap ones", x, 0, 0, 2, 2);
        Check.due("a drier one", 13, x.blend(15, 4, 209, 0, 140));
        parts("a drier one", x, 0, 1, 1, 2);
    }

    private static void blendDrawsNothing() {
        HoneyHouse x = house(new int[] {3000, 150, 50, 5}, new int[] {3000, 150, 50, 6});
        x.warm(0, 2);
        x.blend(3, 4, 300, 0, 140);
        Check.due("grams", 3000, x.holds(0, 0, 0));
        Check.due("grams of the other", 3000, x.holds(0, 1, 0));
        Check.due("heat", 2, x.holds(0, 0, 2));
        Check.due("batches", 0, x.count(1));
        Check.due("the same again", 21, x.blend(3, 4, 300, 0, 140));
    }

    // ---- Promise 27

    private static HoneyHouse told() {
        HoneyHouse x = house(new int[] {3000, 150, 50, 5}, new int[] {3000, 150, 50, 6});
        Check.due("told", 21, x.blend(3, 4, 300, 0, 140));
        return x;
    }

    private static void partsEdges() {
        Check.range("parts of tank", 0, 9, n -> told().parts(n) >= 0);
        Check.due("parts of tank -1", -1, told().parts(-1));
        Check.due("parts of tank 10", -1, told().parts(10));
    }

    private static void partsAheadOfAny() {
        HoneyHouse x = house(new int[] {3000, 150, 50, 5});
        for (int tank = 0; tank < 10; tank++) {
            Check.due("ahead of any " + tank, -1, x.parts(tank));
        }
        x.blend(0, 1, 300, 0, 140);
        Check.due("after a refusal alone", -1, x.parts(0));
        x.blend(1, 4, 300, 0, 140);
        Check.due("without a blend alone", -1, x.parts(0));
        x.blend(1, 3, 300, 0, 140);
        Check.due("told", 3, x.parts(0));
    }

    private static void partsStayAfterARefusal() {
        int[][] refused = {{0, 1, 300, 0, 140}, {1024, 1, 300, 0, 140}, {4, 1, 300, 0, 140},
            {5, 1, 300, 0, 140}, {1, 0, 300, 0, 140}, {1, 41, 300, 0, 140}, {1, 1, -1, 0, 140},
            {1, 1, 301, 0, 140}, {1, 1, 300, -1, 140}, {1, 1, 300, 0, 141}};
        for (int[] r : refused) {
            HoneyHouse x = told();
            Check.due("refused " + r[0], -1, x.blend(r[0], r[1], r[2], r[3], r[4]));
            parts("refused", x, 3, 1);
        }
    }

    private static void partsStayWithoutABlend() {
        HoneyHouse x = told();
        Check.due("none", -2, x.blend(3, 7, 300, 0, 140));
        parts("too many parts", x, 3, 1);
        Check.due("none", -2, x.blend(1, 1, 149, 0, 140));
        parts("too dry", x, 3, 1);
    }

    private static void partsOfTheLatest() {
        HoneyHouse x = told();
        x.blend(2, 2, 300, 0, 140);
        parts("anew", x, 0, 2);
        x.spill(1, 3000);
        parts("as it was told", x, 0, 2);
        x.blend(1, 1, 300, 0, 140);
        parts("anew again", x, 1, 0);
    }

    private static void partsOfTanksNotAsked() {
        HoneyHouse x = allFull();
        x.blend(0x210, 7, 300, 0, 140);
        parts("not asked", x, 0, 0, 0, 0, 0, 0, 0, 0, 0, 7);
    }
}
