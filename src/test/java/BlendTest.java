/** Promises 26 and 27: the cheapest blend, and its parts. */
public final class BlendTest {
    public static void main(String[] args) {
        whatCannotBe();
        limits();
        likePrices();
        toldNumbers();
        partsStay();
        fourTanks();
        mostOfAll();
        Check.finish();
    }

    private static void fill(HoneyHouse x, int tank, int[] gramsWaterColourPrice) {
        int[] it = gramsWaterColourPrice;
        int lot = x.lot(0, it[0], it[1], it[2], 0);
        x.tank(tank, 1000000, it[3]);
        x.pour(lot, tank, it[0]);
    }

    private static HoneyHouse house(int[]... tanks) {
        HoneyHouse x = new HoneyHouse();
        for (int k = 0; k < tanks.length; k++) {
            fill(x, k, tanks[k]);
        }
        return x;
    }

    private static void parts(String at, HoneyHouse x, int... due) {
        for (int tank = 0; tank < 10; tank++) {
            Check.due(at + ", parts of " + tank, tank < due.length ? due[tank] : 0, x.parts(tank));
        }
    }

    private static void whatCannotBe() {
        HoneyHouse x = new HoneyHouse();
        for (int k = 0; k < 9; k++) {
            fill(x, k, new int[] {5000, 150, 50, 1});
        }
        Check.due("ahead of any", -1, x.parts(0));
        Check.due("no tanks", -1, x.blend(0, 1, 300, 0, 140));
        Check.due("five tanks", -1, x.blend(31, 1, 300, 0, 140));
        Check.due("four tanks", 1, x.blend(0xF0, 1, 300, 0, 140));
        Check.due("an empty one", -1, x.blend(512 + 1, 1, 300, 0, 140));
        Check.due("tank 10", -1, x.blend(1024, 1, 300, 0, 140));
        Check.due("tank 10 too", -1, x.blend(1025, 1, 300, 0, 140));
        x.spill(0, 5000);
        Check.due("the first one is empty", -1, x.blend(3, 1, 300, 0, 140));
        x.lot(0, 5000, 150, 50, 0);
        x.pour(9, 0, 5000);
        Check.due("bits -1", -1, x.blend(-1, 1, 300, 0, 140));
        Check.due("bits least", -1, x.blend(Integer.MIN_VALUE, 1, 300, 0, 140));
        Check.due("bits least and 1", -1, x.blend(Integer.MIN_VALUE + 1, 1, 300, 0, 140));
        Check.due("parts 0", -1, x.blend(1, 0, 300, 0, 140));
        Check.due("parts 41", -1, x.blend(1, 41, 300, 0, 140));
        Check.due("water -1", -1, x.blend(1, 1, -1, 0, 140));
        Check.due("water 301", -1, x.blend(1, 1, 301, 0, 140));
        Check.due("least -1", -1, x.blend(1, 1, 300, -1, 140));
        Check.due("least 141", -1, x.blend(1, 1, 300, 141, 140));
        Check.due("most -1", -1, x.blend(1, 1, 300, 0, -1));
        Check.due("most 141", -1, x.blend(1, 1, 300, 0, 141));
        Check.due("water 0", -2, x.blend(1, 1, 0, 0, 140));
        Check.due("most 0", -2, x.blend(1, 1, 300, 0, 0));
        Check.due("least above most", -2, x.blend(1, 1, 300, 51, 50));
        Check.due("parts 5", 5, x.blend(1, 5, 300, 0, 140));
        Check.due("parts 6", -2, x.blend(1, 6, 300, 0, 140));
        Check.due("parts of tank -1", -1, x.parts(-1));
        Check.due("parts of tank 10", -1, x.parts(10));
    }

    private static void limits() {
        HoneyHouse x = house(new int[] {1999, 150, 20, 10}, new int[] {9000, 200, 80, 1});
        Check.due("no limit", 9, x.blend(3, 9, 300, 0, 140));
        parts("no limit", x, 0, 9);
        Check.due("a whole 1000 alone", 19, x.blend(3, 10, 300, 0, 140));
        parts("a whole 1000 alone", x, 1, 9);
        Check.due("no more", -2, x.blend(3, 11, 300, 0, 140));
        Check.due("water just so", 11, x.blend(3, 2, 175, 0, 140));
        Check.due("water lacks", -2, x.blend(3, 2, 174, 0, 140));
        Check.due("colour just so", 11, x.blend(3, 2, 300, 50, 50));
        Check.due("colour most", -2, x.blend(3, 2, 300, 51, 79));
        Check.due("colour least", 2, x.blend(3, 2, 300, 51, 80));
        Check.due("colour below", -2, x.blend(3, 2, 300, 21, 49));
    }

    private static void likePrices() {
        HoneyHouse x = house(new int[] {40000, 150, 50, 5}, new int[] {40000, 150, 50, 5},
            new int[] {3000, 150, 50, 5}, new int[] {2000, 150, 50, 5});
        Check.due("like prices", 50, x.blend(15, 10, 300, 0, 140));
        parts("like prices", x, 0, 5, 3, 2);
        Check.due("of two", 50, x.blend(9, 10, 300, 0, 140));
        parts("of two", x, 8, 0, 0, 2);
        Check.due("of one", 50, x.blend(2, 10, 300, 0, 140));
        parts("of one", x, 0, 10);
    }

    private static void toldNumbers() {
        // Water 150 of 1999 grams and 151 of 1 gram is told as 1500: no more than 150.
        HoneyHouse x = new HoneyHouse();
        x.lot(0, 1999, 150, 50, 0);
        x.lot(0, 1, 151, 51, 0);
        x.tank(7, 3000, 9);
        x.pour(0, 7, 1999);
        x.pour(1, 7, 1);
        Check.due("told water", 18, x.blend(128, 2, 150, 50, 50));
        Check.due("its parts", 2, x.parts(7));
    }

    private static void partsStay() {
        HoneyHouse x = house(new int[] {3000, 150, 50, 5}, new int[] {3000, 150, 50, 6});
        Check.due("none", -2, x.blend(1, 4, 300, 0, 140));
        Check.due("none told", -1, x.parts(0));
        x.blend(3, 4, 300, 0, 140);
        parts("first", x, 3, 1);
        x.blend(3, 7, 300, 0, 140);
        x.blend(0, 7, 300, 0, 140);
        parts("stays", x, 3, 1);
        x.blend(2, 2, 300, 0, 140);
        parts("anew", x, 0, 2);
        Check.due("nothing is drawn", 3000, x.holds(0, 0, 0));
    }

    private static void fourTanks() {
        HoneyHouse x = house(new int[] {1000, 160, 10, 9}, new int[] {1000, 170, 20, 9},
            new int[] {2000, 200, 60, 2}, new int[] {2000, 220, 90, 1});
        // All six: water 160 + 170 + 400 + 440 = 1170, colour 10 + 20 + 120 + 180 = 330.
        Check.due("all", 24, x.blend(15, 6, 195, 55, 55));
        parts("all", x, 1, 1, 2, 2);
        Check.due("too wet", -2, x.blend(15, 6, 194, 0, 140));
        Check.due("too dark", -2, x.blend(15, 6, 300, 0, 54));
        Check.due("too light", -2, x.blend(15, 6, 300, 56, 140));
        // The third and fourth alone: 2 + 2 parts have water 840 and colour 300.
        Check.due("the cheap ones", 6, x.blend(15, 4, 210, 75, 75));
        parts("the cheap ones", x, 0, 0, 2, 2);
        Check.due("a drier one", 13, x.blend(15, 4, 209, 0, 140));
        parts("a drier one", x, 0, 1, 1, 2);
    }

    private static void mostOfAll() {
        HoneyHouse x = house(new int[] {50000, 300, 140, 10000}, new int[] {50000, 300, 140, 10000},
            new int[] {50000, 300, 140, 10000}, new int[] {50000, 300, 140, 10000});
        Check.due("dearest", 400000, x.blend(15, 40, 300, 140, 140));
        parts("dearest", x, 0, 0, 0, 40);
    }
}
