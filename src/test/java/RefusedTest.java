import java.util.function.ToLongFunction;

/** All promises: a call that is refused answers so, and changes nothing that can be asked. */
public final class RefusedTest {
    private static final int LEAST = Integer.MIN_VALUE;
    private static final int MOST = Integer.MAX_VALUE;
    private static final int NO_TEST = -1000000000;

    private static final Witness UNTOUCHED = new Witness(house());

    public static void main(String[] args) {
        new Witness(house()).same("two like houses", UNTOUCHED);
        tapeAndDays();
        lots();
        tests();
        tanks();
        pours();
        moves();
        warms();
        jarsAndSpills();
        shuts();
        steps();
        blends();
        traces();
        questionsChangeNothing();
        Check.finish();
    }

    /** A small house in which something of each kind is there. */
    private static HoneyHouse house() {
        HoneyHouse x = new HoneyHouse();
        x.step(0, 170, 3000);
        x.step(1, 200, 2000);
        x.step(3, 250, 500);
        x.lot(3, 6000, 150, 40, 1);
        x.lot(4, 5000, 190, 60, 2);
        x.lot(3, 10, 210, 20, 0);
        x.pollen(0, 0, 100, 400);
        x.pollen(1, 1, 300, 300);
        x.pollen(1, 0, 500, 700);
        x.tank(0, 10000, 5);
        x.tank(1, 6000, 7);
        x.tank(9, 50, 9);
        x.pour(0, 0, 4000);
        x.pour(1, 0, 1500);
        x.pour(1, 1, 2000);
        x.warm(0, 7);
        x.warm(1, 3);
        x.today(11);
        x.jar(0, 101);
        x.today(12);
        x.jar(1, 50);
        Check.tell(x, "a:heat max 100 from 5;");
        Check.tell(x, "a:pollen 0 min 100 from 9;");
        Check.tell(x, "b:water max 160 or colour min 41 from 0;");
        x.shut(0, 20);
        x.blend(3, 4, 300, 0, 140);
        x.trace(0);
        Check.tell(x, "a:land 4");
        Check.type(x, "c:heat ");
        return x;
    }

    private static void refused(String call, long due, ToLongFunction<HoneyHouse> asked) {
        HoneyHouse x = house();
        Check.due(call, due, asked.applyAsLong(x));
        new Witness(x).same(call, UNTOUCHED);
    }

    private static long of(boolean answer) {
        return answer ? 1 : 0;
    }

    private static void tapeAndDays() {
        int[] ends = {-1, 8, 400, LEAST, MOST};
        for (int n : ends) {
            refused("end " + n, 0, x -> of(x.end(n)));
        }
        int[] days = {-1, 0, 11, 30001, LEAST, MOST};
        for (int day : days) {
            refused("today " + day, 0, x -> of(x.today(day)));
        }
    }

    private static void lots() {
        int[][] some = {{-1, 1, 100, 0, 0}, {10, 1, 100, 0, 0}, {0, 0, 100, 0, 0},
            {0, 200001, 100, 0, 0}, {0, 1, 99, 0, 0}, {0, 1, 301, 0, 0}, {0, 1, 100, -1, 0},
            {0, 1, 100, 141, 0}, {0, 1, 100, 0, -1}, {0, 1, 100, 0, 4}, {LEAST, 1, 100, 0, 0},
            {0, MOST, 100, 0, 0}, {0, 1, MOST, 0, 0}, {0, 1, 100, LEAST, 0}, {0, 1, 100, 0, MOST}};
        for (int[] n : some) {
            refused("lot " + n[0] + " " + n[1] + " " + n[2] + " " + n[3] + " " + n[4], -1,
                x -> x.lot(n[0], n[1], n[2], n[3], n[4]));
        }
    }

    private static void tests() {
        // Of lot 1 the lows are 500 and 300, so of another kind 200 are the most.
        int[][] some = {{-1, 0, 0, 1000}, {3, 0, 0, 1000}, {0, -1, 0, 1000}, {0, 5, 0, 1000},
            {0, 0, -1, 1000}, {0, 0, 0, 1001}, {0, 0, 501, 500}, {1, 2, 201, 1000},
            {1, 4, 201, 1000}, {1, 0, 701, 1000}, {0, 0, LEAST, 1000}, {0, 0, 0, MOST},
            {LEAST, 0, 0, 1000}, {0, MOST, 0, 1000}, {0, 0, MOST, MOST}, {0, 0, LEAST, LEAST}};
        for (int[] n : some) {
            refused("pollen " + n[0] + " " + n[1] + " " + n[2] + " " + n[3], 0,
                x -> of(x.pollen(n[0], n[1], n[2], n[3])));
        }
        int[][] waters = {{-1, 150}, {3, 150}, {40, 150}, {0, 99}, {0, 301}, {0, LEAST}, {0, MOST},
            {LEAST, 150}, {MOST, 150}};
        for (int[] n : waters) {
            refused("test " + n[0] + " " + n[1], NO_TEST, x -> x.test(n[0], n[1]));
        }
    }

    private static void tanks() {
        // Tank 0 holds 5399 grams, tank 1 1950.
        int[][] some = {{-1, 1, 1}, {10, 1, 1}, {LEAST, 1, 1}, {MOST, 1, 1}, {2, -1, 1},
            {2, 1000001, 1}, {2, LEAST, 1}, {2, MOST, 1}, {2, 1, -1}, {2, 1, 10001}, {2, 1, LEAST},
            {2, 1, MOST}, {0, 5398, 1}, {0, 0, 1}, {1, 1949, 7}};
        for (int[] n : some) {
            refused("tank " + n[0] + " " + n[1] + " " + n[2], 0,
                x -> of(x.tank(n[0], n[1], n[2])));
        }
    }

    private static void pours() {
        int[][] none = {{-1, 0, 1}, {3, 0, 1}, {LEAST, 0, 1}, {MOST, 0, 1}, {0, -1, 1}, {0, 10, 1},
            {0, LEAST, 1}, {0, MOST, 1}, {3, 10, 0}};
        for (int[] n : none) {
            refused("pour " + n[0] + " " + n[1] + " " + n[2], -1, x -> x.pour(n[0], n[1], n[2]));
        }
        // Of lot 0 2000 grams are left, of lot 2 10; tank 9 has room for 50, tank 2 for none.
        int[][] notSoMany = {{0, 0, 0}, {0, 0, -1}, {0, 0, LEAST}, {0, 0, MOST}, {0, 0, 2001},
            {2, 0, 11}, {0, 9, 51}, {0, 2, 1}};
        for (int[] n : notSoMany) {
            refused("pour " + n[0] + " " + n[1] + " " + n[2], -2, x -> x.pour(n[0], n[1], n[2]));
        }
    }

    private static void moves() {
        int[][] none = {{-1, 0, 1}, {10, 0, 1}, {LEAST, 0, 1}, {MOST, 0, 1}, {0, -1, 1}, {0, 10, 1},
            {0, LEAST, 1}, {0, MOST, 1}, {0, 0, 1}, {1, 1, 1}, {2, 2, 1}, {0, 0, 0}};
        for (int[] n : none) {
            refused("move " + n[0] + " " + n[1] + " " + n[2], -1, x -> x.move(n[0], n[1], n[2]));
        }
        int[][] notSoMany = {{0, 1, 0}, {0, 1, -1}, {0, 1, LEAST}, {0, 1, MOST}, {0, 1, 5400},
            {1, 0, 1951}, {0, 1, 4051}, {0, 9, 51}, {0, 2, 1}, {2, 0, 1}, {9, 0, 1}};
        for (int[] n : notSoMany) {
            refused("move " + n[0] + " " + n[1] + " " + n[2], -2, x -> x.move(n[0], n[1], n[2]));
        }
    }

    private static void warms() {
        int[][] some = {{-1, 1}, {10, 1}, {LEAST, 1}, {MOST, 1}, {2, 1}, {9, 1}, {0, 0}, {0, -1},
            {0, 1001}, {0, LEAST}, {0, MOST}};
        for (int[] n : some) {
            refused("warm " + n[0] + " " + n[1], -1, x -> x.warm(n[0], n[1]));
        }
    }

    private static void jarsAndSpills() {
        int[] none = {-1, 10, LEAST, MOST};
        for (int tank : none) {
            refused("jar " + tank, -1, x -> x.jar(tank, 1));
            refused("spill " + tank, -1, x -> x.spill(tank, 1));
            refused("jar nothing of " + tank, -1, x -> x.jar(tank, 0));
            refused("spill nothing of " + tank, -1, x -> x.spill(tank, 0));
        }
        int[][] notSoMany = {{0, 0}, {0, -1}, {0, LEAST}, {0, MOST}, {0, 5400}, {1, 1951}, {2, 1},
            {9, 1}};
        for (int[] n : notSoMany) {
            refused("jar " + n[0] + " " + n[1], -2, x -> x.jar(n[0], n[1]));
            refused("spill " + n[0] + " " + n[1], -2, x -> x.spill(n[0], n[1]));
        }
    }

    private static void shuts() {
        // Rule 0 is shut; the others are from 9 and from 0.
        int[][] some = {{-1, 50}, {3, 50}, {16, 50}, {LEAST, 50}, {MOST, 50}, {0, 5}, {0, 20},
            {0, 50}, {1, 8}, {1, -1}, {1, LEAST}, {2, -1}, {2, LEAST}};
        for (int[] n : some) {
            refused("shut " + n[0] + " " + n[1], 0, x -> of(x.shut(n[0], n[1])));
        }
    }

    private static void steps() {
        int[][] some = {{-1, 300, 9}, {4, 300, 9}, {LEAST, 300, 9}, {MOST, 300, 9}, {0, -1, 9},
            {0, 301, 9}, {0, LEAST, 9}, {0, MOST, 9}, {0, 300, -1}, {0, 300, 100001},
            {0, 300, LEAST}, {0, 300, MOST}, {3, 300, 100001}, {3, 301, 9}};
        for (int[] n : some) {
            refused("step " + n[0] + " " + n[1] + " " + n[2], 0,
                x -> of(x.step(n[0], n[1], n[2])));
        }
    }

    private static void blends() {
        int[][] cannotBe = {{0, 1, 300, 0, 140}, {4, 1, 300, 0, 140}, {5, 1, 300, 0, 140},
            {1024, 1, 300, 0, 140}, {1025, 1, 300, 0, 140}, {-1, 1, 300, 0, 140},
            {LEAST, 1, 300, 0, 140}, {MOST, 1, 300, 0, 140}, {1, 0, 300, 0, 140},
            {1, 41, 300, 0, 140}, {1, LEAST, 300, 0, 140}, {1, MOST, 300, 0, 140},
            {1, 1, -1, 0, 140}, {1, 1, 301, 0, 140}, {1, 1, MOST, 0, 140}, {1, 1, 300, -1, 140},
            {1, 1, 300, 141, 140}, {1, 1, 300, LEAST, 140}, {1, 1, 300, 0, -1},
            {1, 1, 300, 0, 141}, {1, 1, 300, 0, MOST}};
        for (int[] n : cannotBe) {
            refused("blend " + n[0] + " " + n[1] + " " + n[2] + " " + n[3] + " " + n[4], -1,
                x -> x.blend(n[0], n[1], n[2], n[3], n[4]));
        }
        int[][] none = {{3, 7, 300, 0, 140}, {1, 6, 300, 0, 140}, {1, 1, 0, 0, 140},
            {1, 1, 300, 0, 0}, {1, 1, 300, 140, 140}, {1, 1, 300, 140, 0}};
        for (int[] n : none) {
            refused("blend " + n[0] + " " + n[1] + " " + n[2] + " " + n[3] + " " + n[4], -2,
                x -> x.blend(n[0], n[1], n[2], n[3], n[4]));
        }
    }

    private static void traces() {
        int[] some = {-1, 3, 40, LEAST, MOST};
        for (int lot : some) {
            refused("trace " + lot, -1, x -> x.trace(lot));
        }
    }

    /** What only tells something changes nothing either, be it told or refused. */
    private static void questionsChangeNothing() {
        int[] some = {LEAST, -1, 0, 1, 2, 3, 5, 10, 25, 60, MOST};
        HoneyHouse x = house();
        for (int n : some) {
            x.of(n, 5);
            x.of(0, n);
            x.span(n, 0, 0);
            x.span(0, n, 1);
            x.span(0, 0, n);
            x.holds(n, 0, 0);
            x.holds(1, n, 1);
            x.holds(0, 0, n);
            x.part(n, 0, 0);
            x.part(0, n, 0);
            x.part(1, 0, n);
            x.measure(n, 0, 0);
            x.measure(1, n, 2);
            x.measure(0, 0, n);
        }
        new Witness(x).same("told of lots, tanks, batches", UNTOUCHED);
        HoneyHouse y = house();
        for (int n : some) {
            y.fault(n);
            y.says(n, 0, 0);
            y.says(0, n, 0);
            y.says(1, 1, n);
            y.name(n, 0, 5);
            y.name(0, n, 9);
            y.name(0, 0, n);
            y.paid(n);
            y.parts(n);
            y.found(n);
            y.whose(n, 0);
            y.whose(3, n);
            y.count(n);
        }
        new Witness(y).same("told of rules, pay, blends, traces", UNTOUCHED);
    }
}
