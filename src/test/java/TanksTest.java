/** Promises 10 to 13 and 15: tanks, pouring, moving, warming, spilling. */
public final class TanksTest {
    public static void main(String[] args) {
        tankEdges();
        tankHoldsMore();
        tankRefusedDoesNothing();
        tankKeepsWhatItHolds();

        pourEdges();
        pourNoLotOrTank();
        pourNotSoMany();
        pourNotSoMuchRoom();
        pourIntoTheGreatestTank();
        pourRefusedDoesNothing();

        moveEdges();
        moveNoTankOrTheSame();
        moveNotSoMany();
        moveNotSoMuchRoom();
        moveRefusedDoesNothing();

        warmEdges();
        warmEmpty();
        warmAddsUp();
        warmRefusedDoesNothing();

        spillEdges();
        spillNoTank();
        spillNotSoMany();
        spillRefusedDoesNothing();
        Check.finish();
    }

    // ---- Promise 10

    private static void tankEdges() {
        Check.range("tank", 0, 9, n -> new HoneyHouse().tank(n, 1, 1));
        Check.range("room", 0, 1000000, n -> new HoneyHouse().tank(0, n, 1));
        Check.range("price", 0, 10000, n -> new HoneyHouse().tank(0, 1, n));
        HoneyHouse x = new HoneyHouse();
        Check.due("most of all", true, x.tank(9, 1000000, 10000));
        Check.due("room", 1000000, x.holds(0, 9, 3));
        Check.due("price", 10000, x.holds(0, 9, 4));
        Check.due("least of all", true, x.tank(9, 0, 0));
        Check.due("no room", 0, x.holds(0, 9, 3));
        Check.due("no price", 0, x.holds(0, 9, 4));
    }

    private static void tankHoldsMore() {
        Check.range("room of a tank that holds 11", 11, 1000000, n -> Houses.mixed().tank(0, n, 0));
        HoneyHouse x = Houses.mixed();
        Check.due("10 of 11", false, x.tank(0, 10, 0));
        Check.due("0 of 11", false, x.tank(0, 0, 0));
        x.spill(0, 1);
        Check.due("10 of 10", true, x.tank(0, 10, 0));
        x.spill(0, 10);
        Check.due("0 of 0", true, x.tank(0, 0, 0));
    }

    private static void tankRefusedDoesNothing() {
        int[][] refused = {{-1, 20, 9}, {10, 20, 9}, {0, -1, 9}, {0, 1000001, 9}, {0, 20, -1},
            {0, 20, 10001}, {0, 10, 9}};
        for (int[] r : refused) {
            HoneyHouse x = Houses.mixed();
            String at = "tank " + r[0] + " " + r[1] + " " + r[2];
            Check.due(at, false, x.tank(r[0], r[1], r[2]));
            Check.due(at + ", room stays", 1000, x.holds(0, 0, 3));
            Check.due(at + ", price stays", 7, x.holds(0, 0, 4));
            Check.due(at + ", room of another", 0, x.holds(0, 9, 3));
        }
    }

    private static void tankKeepsWhatItHolds() {
        HoneyHouse x = Houses.mixed();
        x.warm(0, 4);
        Check.due("anew", true, x.tank(0, 11, 3));
        Houses.parts("anew", x, 0, 0, 5, 3, 3);
        Check.due("heat", 4, x.holds(0, 0, 2));
        Check.due("room", 11, x.holds(0, 0, 3));
        Check.due("price", 3, x.holds(0, 0, 4));
        Check.due("another tank's room", 1000, x.holds(0, 1, 3));
    }

    // ---- Promise 11

    /** Lot 0 of 100 grams; tanks 0 and 9 with room for 60 and 1000. */
    private static HoneyHouse toPour() {
        HoneyHouse x = new HoneyHouse();
        x.lot(0, 100, 100, 0, 0);
        x.tank(0, 60, 0);
        x.tank(9, 1000, 0);
        return x;
    }

    private static void pourEdges() {
        Check.range("pour of lot", 0, 0, n -> toPour().pour(n, 0, 1) != -1);
        Check.range("pour into tank", 0, 9, n -> toPour().pour(0, n, 1) == 99);
        Check.range("pour what is left", 1, 100, n -> toPour().pour(0, 9, n) == 100 - n);
        Check.range("pour what has room", 1, 60, n -> toPour().pour(0, 0, n) == 100 - n);
    }

    private static void pourNoLotOrTank() {
        Check.due("no lots", -1, new HoneyHouse().pour(0, 0, 1));
        Check.due("lot 1 of 1", -1, toPour().pour(1, 0, 1));
        Check.due("lot -1", -1, toPour().pour(-1, 0, 1));
        Check.due("tank 10", -1, toPour().pour(0, 10, 1));
        Check.due("tank -1", -1, toPour().pour(0, -1, 1));
        Check.due("no lot is ahead of no grams", -1, toPour().pour(1, 0, 0));
        Check.due("no tank is ahead of too many", -1, toPour().pour(0, 10, 101));
    }

    private static void pourNotSoMany() {
        Check.due("grams 0", -2, toPour().pour(0, 9, 0));
        Check.due("grams -1", -2, toPour().pour(0, 9, -1));
        Check.due("grams 101 of 100", -2, toPour().pour(0, 9, 101));
        Check.due("grams most", -2, toPour().pour(0, 9, Integer.MAX_VALUE));
        Check.due("grams least", -2, toPour().pour(0, 9, Integer.MIN_VALUE));
        HoneyHouse x = toPour();
        Check.due("40 of 100", 60, x.pour(0, 9, 40));
        Check.due("61 of 60", -2, x.pour(0, 9, 61));
        Check.due("60 of 60", 0, x.pour(0, 9, 60));
        Check.due("1 of none", -2, x.pour(0, 9, 1));
    }

    private static void pourNotSoMuchRoom() {
        Check.due("61 into 60", -2, toPour().pour(0, 0, 61));
        Check.due("1 into a tank without room", -2, toPour().pour(0, 1, 1));
        HoneyHouse x = toPour();
        Check.due("40 into 60", 60, x.pour(0, 0, 40));
        Check.due("21 into 20", -2, x.pour(0, 0, 21));
        Check.due("20 into 20", 40, x.pour(0, 0, 20));
        Check.due("1 into a full tank", -2, x.pour(0, 0, 1));
        Check.due("it is full", 60, x.holds(0, 0, 0));
    }

    private static void pourIntoTheGreatestTank() {
        HoneyHouse x = Houses.holding(200000, 200000, 200000, 200000, 200000);
        Check.due("full", 1000000, x.holds(0, 0, 0));
        x.lot(0, 1, 100, 0, 0);
        Check.due("one more", -2, x.pour(5, 0, 1));
        Check.due("into another", 0, x.pour(5, 1, 1));
    }

    private static void pourRefusedDoesNothing() {
        int[][] refused = {{1, 0, 1}, {-1, 0, 1}, {0, 10, 1}, {0, -1, 1}, {0, 0, 0}, {0, 0, -5},
            {0, 0, 41}, {0, 9, 81}, {0, 1, 1}};
        for (int[] r : refused) {
            HoneyHouse x = toPour();
            x.pour(0, 0, 20);
            x.warm(0, 5);
            String at = "pour " + r[0] + " " + r[1] + " " + r[2];
            Check.due(at, true, x.pour(r[0], r[1], r[2]) < 0);
            Check.due(at + ", left", 80, x.of(0, 5));
            Check.due(at + ", in it", 20, x.holds(0, 0, 0));
            Check.due(at + ", in another", 0, x.holds(0, 9, 0));
            Check.due(at + ", heat", 5, x.holds(0, 0, 2));
            Check.due(at + ", whose", 20, x.whose(0, 1));
        }
    }

    // ---- Promise 12

    private static void moveEdges() {
        Check.range("move from", 0, 0, n -> Houses.mixed().move(n, 1, 1) >= 0);
        Check.range("move what there is", 1, 11, n -> Houses.mixed().move(0, 1, n) == 11 - n);
        Check.range("move what has room", 1, 6, n -> {
            HoneyHouse x = Houses.mixed();
            x.tank(1, 6, 0);
            return x.move(0, 1, n) == 11 - n;
        });
        HoneyHouse x = Houses.mixed();
        x.tank(9, 100, 0);
        Check.due("to tank 9", 10, x.move(0, 9, 1));
        Check.due("from tank 9", 0, x.move(9, 0, 1));
    }

    private static void moveNoTankOrTheSame() {
        Check.due("from -1", -1, Houses.mixed().move(-1, 0, 1));
        Check.due("from 10", -1, Houses.mixed().move(10, 0, 1));
        Check.due("to -1", -1, Houses.mixed().move(0, -1, 1));
        Check.due("to 10", -1, Houses.mixed().move(0, 10, 1));
        Check.due("the same", -1, Houses.mixed().move(0, 0, 1));
        Check.due("the same and empty", -1, Houses.mixed().move(1, 1, 1));
        Check.due("the same that is none", -1, Houses.mixed().move(10, 10, 1));
        Check.due("the same is ahead of no grams", -1, Houses.mixed().move(0, 0, 0));
        Check.due("no tank is ahead of too many", -1, Houses.mixed().move(0, 10, 12));
    }

    private static void moveNotSoMany() {
        Check.due("grams 0", -2, Houses.mixed().move(0, 1, 0));
        Check.due("grams -3", -2, Houses.mixed().move(0, 1, -3));
        Check.due("12 of 11", -2, Houses.mixed().move(0, 1, 12));
        Check.due("1 of an empty tank", -2, Houses.mixed().move(1, 0, 1));
        Check.due("0 of an empty tank", -2, Houses.mixed().move(1, 0, 0));
        HoneyHouse x = Houses.mixed();
        Check.due("all", 0, x.move(0, 1, 11));
        Houses.parts("all", x, 0, 1, 5, 3, 3);
        Houses.parts("nothing", x, 0, 0, 0, 0, 0);
        Check.due("lots in it", 0, x.holds(0, 0, 1));
        Check.due("one more", -2, x.move(0, 1, 1));
    }

    private static void moveNotSoMuchRoom() {
        HoneyHouse x = Houses.mixed();
        x.tank(1, 6, 0);
        Check.due("7 into 6", -2, x.move(0, 1, 7));
        Check.due("4 into 6", 7, x.move(0, 1, 4));
        Check.due("3 into 2", -2, x.move(0, 1, 3));
        Check.due("2 into 2", 5, x.move(0, 1, 2));
        Check.due("1 into a full tank", -2, x.move(0, 1, 1));
        Check.due("1 into a tank without room", -2, x.move(0, 2, 1));
        HoneyHouse y = Houses.holding(200000, 200000, 200000, 200000, 200000);
        y.lot(0, 1, 100, 0, 0);
        y.pour(5, 1, 1);
        Check.due("1 into the greatest full tank", -2, y.move(1, 0, 1));
    }

    private static void moveRefusedDoesNothing() {
        int[][] refused = {{-1, 1, 1}, {10, 1, 1}, {0, -1, 1}, {0, 10, 1}, {0, 0, 1}, {0, 1, 0},
            {0, 1, -1}, {0, 1, 11}, {0, 1, 9}, {0, 2, 1}, {2, 1, 1}};
        for (int[] r : refused) {
            HoneyHouse x = Houses.mixed();
            x.tank(1, 9, 0);
            x.warm(0, 5);
            x.move(0, 1, 1);
            x.warm(0, 2);
            String at = "move " + r[0] + " " + r[1] + " " + r[2];
            Check.due(at, true, x.move(r[0], r[1], r[2]) < 0);
            Houses.parts(at + ", from", x, 0, 0, 4, 3, 3);
            Houses.parts(at + ", to", x, 0, 1, 1, 0, 0);
            Check.due(at + ", heat", 7, x.holds(0, 0, 2));
            Check.due(at + ", its heat", 5, x.holds(0, 1, 2));
        }
    }

    // ---- Promise 13

    private static void warmEdges() {
        Check.range("hours", 1, 1000, n -> Houses.mixed().warm(0, n) == n);
        Check.range("warm tank", 0, 0, n -> Houses.mixed().warm(n, 1) == 1);
        HoneyHouse x = Houses.mixed();
        x.tank(9, 1, 0);
        x.move(0, 9, 1);
        Check.due("warm tank 9", 1, x.warm(9, 1));
        Check.due("warm tank 10", -1, x.warm(10, 1));
        Check.due("hours 0", -1, x.warm(0, 0));
        Check.due("hours 1001", -1, x.warm(0, 1001));
    }

    private static void warmEmpty() {
        HoneyHouse x = Houses.mixed();
        Check.due("never filled", -1, x.warm(1, 1));
        x.spill(0, 10);
        Check.due("one gram", 3, x.warm(0, 3));
        x.spill(0, 1);
        Check.due("emptied", -1, x.warm(0, 1));
        Check.due("its heat", 0, x.holds(0, 0, 2));
    }

    private static void warmAddsUp() {
        HoneyHouse x = Houses.mixed();
        Check.due("warm", 1000, x.warm(0, 1000));
        Check.due("warm more", 2000, x.warm(0, 1000));
        Check.due("and more", 2001, x.warm(0, 1));
        Check.due("told", 2001, x.measure(0, 0, 2));
        Check.due("another tank", 0, x.holds(0, 1, 2));
    }

    private static void warmRefusedDoesNothing() {
        int[][] refused = {{0, 0}, {0, -1}, {0, 1001}, {0, Integer.MIN_VALUE}, {1, 5}, {10, 5}, {-1, 5}};
        for (int[] r : refused) {
            HoneyHouse x = Houses.mixed();
            x.warm(0, 7);
            String at = "warm " + r[0] + " " + r[1];
            Check.due(at, -1, x.warm(r[0], r[1]));
            Check.due(at + ", heat", 7, x.holds(0, 0, 2));
            Check.due(at + ", heat of the empty one", 0, x.holds(0, 1, 2));
        }
    }

    // ---- Promise 15

    private static void spillEdges() {
        Check.range("spill what there is", 1, 11, n -> Houses.mixed().spill(0, n) == 11 - n);
        Check.range("spill tank", 0, 0, n -> Houses.mixed().spill(n, 1) == 10);
        HoneyHouse x = Houses.mixed();
        x.tank(9, 1, 0);
        x.move(0, 9, 1);
        Check.due("spill tank 9", 0, x.spill(9, 1));
    }

    private static void spillNoTank() {
        Check.due("spill tank -1", -1, Houses.mixed().spill(-1, 1));
        Check.due("spill tank 10", -1, Houses.mixed().spill(10, 1));
        Check.due("no tank is ahead of no grams", -1, Houses.mixed().spill(10, 0));
    }

    private static void spillNotSoMany() {
        Check.due("spill 0", -2, Houses.mixed().spill(0, 0));
        Check.due("spill -1", -2, Houses.mixed().spill(0, -1));
        Check.due("spill 12 of 11", -2, Houses.mixed().spill(0, 12));
        Check.due("spill an empty tank", -2, Houses.mixed().spill(1, 1));
        HoneyHouse x = Houses.mixed();
        Check.due("spill 6", 5, x.spill(0, 6));
        Houses.parts("rest", x, 0, 0, 2, 1, 2);
        Check.due("spill 6 of 5", -2, x.spill(0, 6));
        Check.due("spill all", 0, x.spill(0, 5));
        Check.due("spill one more", -2, x.spill(0, 1));
        Check.due("gone", 5, x.whose(0, 3));
    }

    private static void spillRefusedDoesNothing() {
        int[][] refused = {{-1, 1}, {10, 1}, {0, 0}, {0, -1}, {0, 12}, {1, 1}};
        for (int[] r : refused) {
            HoneyHouse x = Houses.mixed();
            x.warm(0, 7);
            String at = "spill " + r[0] + " " + r[1];
            Check.due(at, true, x.spill(r[0], r[1]) < 0);
            Houses.parts(at, x, 0, 0, 5, 3, 3);
            Check.due(at + ", heat", 7, x.holds(0, 0, 2));
            Check.due(at + ", gone", 0, x.whose(0, 3));
        }
    }
}
