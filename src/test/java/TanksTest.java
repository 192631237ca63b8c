/** Promises 10 to 18: tanks, pouring, moving, warming, jars, spilling, what is held. */
public final class TanksTest {
    public static void main(String[] args) {
        tanks();
        pours();
        moves();
        restsMakeUp();
        heat();
        jars();
        spills();
        held();
        measures();
        Check.finish();
    }

    /** Lots 0, 1, 2 of 5, 3 and 3 grams, poured into tank 0. */
    private static HoneyHouse mixed() {
        HoneyHouse x = new HoneyHouse();
        x.lot(0, 5, 150, 10, 0);
        x.lot(1, 3, 200, 20, 1);
        x.lot(2, 3, 250, 31, 1);
        x.tank(0, 1000, 7);
        x.tank(1, 1000, 8);
        x.pour(0, 0, 5);
        x.pour(1, 0, 3);
        x.pour(2, 0, 3);
        return x;
    }

    private static void parts(String at, HoneyHouse x, int where, int n, int... due) {
        for (int lot = 0; lot < due.length; lot++) {
            Check.due(at + ", lot " + lot, due[lot], x.part(where, n, lot));
        }
    }

    private static void tanks() {
        HoneyHouse x = new HoneyHouse();
        Check.due("tank -1", false, x.tank(-1, 1, 1));
        Check.due("tank 10", false, x.tank(10, 1, 1));
        Check.due("room -1", false, x.tank(0, -1, 1));
        Check.due("room 1000001", false, x.tank(0, 1000001, 1));
        Check.due("price -1", false, x.tank(0, 1, -1));
        Check.due("price 10001", false, x.tank(0, 1, 10001));
        Check.due("most", true, x.tank(9, 1000000, 10000));
        Check.due("room", 1000000, x.holds(0, 9, 3));
        Check.due("price", 10000, x.holds(0, 9, 4));
        x.lot(0, 50, 100, 0, 0);
        x.pour(0, 9, 50);
        Check.due("it holds more", false, x.tank(9, 49, 1));
        Check.due("price stays", 10000, x.holds(0, 9, 4));
        Check.due("just so much", true, x.tank(9, 50, 1));
        Check.due("nothing", true, x.tank(8, 0, 0));
    }

    private static void pours() {
        HoneyHouse x = new HoneyHouse();
        x.lot(0, 100, 100, 0, 0);
        x.tank(0, 60, 0);
        Check.due("no lot", -1, x.pour(1, 0, 1));
        Check.due("lot -1", -1, x.pour(-1, 0, 1));
        Check.due("tank 10", -1, x.pour(0, 10, 1));
        Check.due("tank -1", -1, x.pour(0, -1, 1));
        Check.due("no lot, no grams", -1, x.pour(1, 0, 0));
        Check.due("grams 0", -2, x.pour(0, 0, 0));
        Check.due("grams -1", -2, x.pour(0, 0, -1));
        Check.due("grams 101", -2, x.pour(0, 0, 101));
        Check.due("room", -2, x.pour(0, 0, 61));
        Check.due("no room at first", -2, x.pour(0, 1, 1));
        Check.due("grams most", -2, x.pour(0, 0, Integer.MAX_VALUE));
        Check.due("pour", 60, x.pour(0, 0, 40));
        Check.due("room again", -2, x.pour(0, 0, 21));
        Check.due("full", 40, x.pour(0, 0, 20));
        Check.due("left", 40, x.of(0, 5));
        Check.due("in it", 60, x.part(0, 0, 0));
        x.tank(1, 1000, 0);
        Check.due("more than left", -2, x.pour(0, 1, 41));
        Check.due("all", 0, x.pour(0, 1, 40));
    }

    private static void moves() {
        HoneyHouse x = mixed();
        x.tank(1, 6, 0);
        Check.due("same", -1, x.move(0, 0, 1));
        Check.due("from -1", -1, x.move(-1, 0, 1));
        Check.due("from 10", -1, x.move(10, 0, 1));
        Check.due("to -1", -1, x.move(0, -1, 1));
        Check.due("to 10", -1, x.move(0, 10, 1));
        Check.due("same, no grams", -1, x.move(0, 0, 0));
        Check.due("grams 0", -2, x.move(0, 1, 0));
        Check.due("grams -3", -2, x.move(0, 1, -3));
        Check.due("grams 12", -2, x.move(0, 1, 12));
        Check.due("room", -2, x.move(0, 1, 7));
        Check.due("empty", -2, x.move(1, 0, 1));
        // 6 of 11: 30/11, 18/11, 18/11 are 2, 1, 1 and rests 8, 7, 7: two make up.
        Check.due("move", 5, x.move(0, 1, 6));
        parts("from", x, 0, 0, 2, 1, 2);
        parts("to", x, 0, 1, 3, 2, 1);
        Check.due("full", -2, x.move(0, 1, 1));
        Check.due("back", 0, x.move(1, 0, 6));
        parts("back", x, 0, 0, 5, 3, 3);
        Check.due("lots in none", 0, x.holds(0, 1, 1));
    }

    private static void restsMakeUp() {
        HoneyHouse x = mixed();
        // 1 of 11: the rests are 5, 3, 3.
        x.move(0, 1, 1);
        parts("greatest rest", x, 0, 1, 1, 0, 0);
        // 2 of 10 (4, 3, 3): no whole gram, the rests are 8, 6, 6: the least number of like ones.
        x.move(0, 1, 2);
        parts("like rests", x, 0, 1, 2, 1, 0);
        // 4 of 8 (3, 2, 3): 1, 1, 1 and rests 4, 0, 4.
        x.spill(0, 4);
        parts("no rest, no gram", x, 0, 0, 1, 1, 2);
        big();
    }

    private static void big() {
        HoneyHouse x = new HoneyHouse();
        x.tank(0, 1000000, 0);
        x.tank(1, 1000000, 0);
        for (int k = 0; k < 5; k++) {
            x.lot(0, 200000, 100, 0, 0);
            x.pour(k, 0, 200000);
        }
        // Each share is 200000 * 999999 / 1000000 = 199999 with 800000 over: four make up.
        Check.due("big move", 1, x.move(0, 1, 999999));
        parts("big rest", x, 0, 0, 0, 0, 0, 0, 1);
        Check.due("big heat", 1000, x.warm(1, 1000));
        Check.due("big told", 1000, x.measure(0, 1, 0));
    }

    private static void heat() {
        HoneyHouse x = mixed();
        Check.due("warm tank -1", -1, x.warm(-1, 1));
        Check.due("warm tank 10", -1, x.warm(10, 1));
        Check.due("warm empty", -1, x.warm(1, 1));
        Check.due("hours 0", -1, x.warm(0, 0));
        Check.due("hours 1001", -1, x.warm(0, 1001));
        Check.due("warm", 1000, x.warm(0, 1000));
        Check.due("warm more", 1005, x.warm(0, 5));
        x.move(0, 1, 2);
        Check.due("moved into empty", 1005, x.holds(0, 1, 2));
        x.warm(1, 10);
        x.move(1, 0, 1);
        Check.due("the greater comes", 1015, x.holds(0, 0, 2));
        x.warm(0, 1);
        x.move(1, 0, 1);
        Check.due("the greater stays", 1016, x.holds(0, 0, 2));
        Check.due("emptied", 0, x.holds(0, 1, 2));
        x.lot(0, 5, 100, 0, 0);
        x.pour(3, 0, 1);
        Check.due("poured upon", 1016, x.holds(0, 0, 2));
        x.spill(0, x.holds(0, 0, 0));
        Check.due("spilled empty", 0, x.holds(0, 0, 2));
        x.pour(3, 0, 1);
        Check.due("poured into empty", 0, x.holds(0, 0, 2));
        x.warm(0, 3);
        Check.due("told of 1 gram", 1000, x.measure(0, 0, 0));
        x.jar(0, 1);
        parts("drawn 1 of 1", x, 1, 0, 0, 0, 0, 1);
        Check.due("jar has it", 3, x.holds(1, 0, 2));
        Check.due("tank has none", 0, x.holds(0, 0, 2));
        x.pour(3, 0, 1);
        x.warm(0, 8);
        x.pour(3, 1, 2);
        x.warm(1, 2);
        x.move(1, 0, 1);
        Check.due("of 1 gram the greater stays", 8, x.holds(0, 0, 2));
    }

    private static void jars() {
        HoneyHouse x = mixed();
        x.today(12);
        Check.due("jar tank -1", -1, x.jar(-1, 1));
        Check.due("jar tank 10", -1, x.jar(10, 1));
        Check.due("jar 0", -2, x.jar(0, 0));
        Check.due("jar -1", -2, x.jar(0, -1));
        Check.due("jar 12", -2, x.jar(0, 12));
        Check.due("jar empty", -2, x.jar(1, 1));
        Check.due("no batch", 0, x.count(1));
        Check.due("jar", 0, x.jar(0, 6));
        parts("batch", x, 1, 0, 3, 2, 1);
        parts("tank", x, 0, 0, 2, 1, 2);
        x.move(0, 1, 5);
        x.today(13);
        Check.due("jar from 1", 1, x.jar(1, 5));
        Check.due("its tank", 1, x.holds(1, 1, 3));
        Check.due("its day", 13, x.holds(1, 1, 4));
        Check.due("day of 0", 12, x.holds(1, 0, 4));
        sixty();
    }

    private static void sixty() {
        HoneyHouse x = new HoneyHouse();
        x.lot(0, 1000, 100, 0, 0);
        x.tank(0, 1000, 0);
        x.pour(0, 0, 1000);
        for (int k = 0; k < 60; k++) {
            Check.due("jar " + k, k, x.jar(0, 1));
        }
        Check.due("jar 60", -3, x.jar(0, 1));
        Check.due("nothing drawn", 940, x.holds(0, 0, 0));
        Check.due("batch 59", 1, x.holds(1, 59, 0));
        Check.due("batch 60", -1, x.holds(1, 60, 0));
        Check.due("not so many is first", -2, x.jar(0, 941));
        Check.due("no tank is first", -1, x.jar(10, 1));
    }

    private static void spills() {
        HoneyHouse x = mixed();
        Check.due("spill tank -1", -1, x.spill(-1, 1));
        Check.due("spill tank 10", -1, x.spill(10, 1));
        Check.due("spill 0", -2, x.spill(0, 0));
        Check.due("spill 12", -2, x.spill(0, 12));
        Check.due("spill", 5, x.spill(0, 6));
        parts("rest", x, 0, 0, 2, 1, 2);
        Check.due("spill 1", 4, x.spill(0, 1));
        Check.due("spill all", 0, x.spill(0, 4));
        Check.due("empty", -2, x.spill(0, 1));
    }

    private static void held() {
        HoneyHouse x = mixed();
        x.jar(0, 1);
        Check.due("grams", 10, x.holds(0, 0, 0));
        Check.due("lots", 3, x.holds(0, 0, 1));
        Check.due("room", 1000, x.holds(0, 0, 3));
        Check.due("price", 7, x.holds(0, 0, 4));
        Check.due("batch grams", 1, x.holds(1, 0, 0));
        Check.due("batch lots", 1, x.holds(1, 0, 1));
        Check.due("batch tank", 0, x.holds(1, 0, 3));
        int[][] none = {{0, 10, 0}, {0, -1, 0}, {1, 1, 0}, {1, -1, 0}, {1, 60, 0}, {2, 0, 0},
            {-1, 0, 0}, {0, 0, 5}, {0, 0, -1}, {1, 0, 5}};
        for (int[] n : none) {
            Check.due("holds " + n[0] + " " + n[1] + " " + n[2], -1, x.holds(n[0], n[1], n[2]));
        }
        Check.due("part lot 3", -1, x.part(0, 0, 3));
        Check.due("part lot -1", -1, x.part(0, 0, -1));
        Check.due("part tank 10", -1, x.part(0, 10, 0));
        Check.due("part batch 1", -1, x.part(1, 1, 0));
        Check.due("part where 2", -1, x.part(2, 0, 0));
        Check.due("part of none", 0, x.part(0, 1, 0));
    }

    private static void measures() {
        HoneyHouse x = mixed();
        x.pollen(0, 2, 100, 300);
        x.pollen(1, 2, 401, 402);
        x.warm(0, 9);
        // 5 * 150 + 3 * 200 + 3 * 250 = 2100; 5 * 10 + 3 * 20 + 3 * 31 = 203.
        Check.due("water", 1909, x.measure(0, 0, 0));
        Check.due("colour", 184, x.measure(0, 0, 1));
        Check.due("heat", 9, x.measure(0, 0, 2));
        // 500 + 1203 = 1703; 1500 + 1206 + 3000 = 5706.
        Check.due("low 2", 1548, x.measure(0, 0, 12));
        Check.due("high 2", 5187, x.measure(0, 0, 22));
        Check.due("low 0", 0, x.measure(0, 0, 10));
        Check.due("high 4", 10000, x.measure(0, 0, 24));
        Check.due("land 0", 4545, x.measure(0, 0, 30));
        Check.due("land 1", 5454, x.measure(0, 0, 31));
        Check.due("land 3", 0, x.measure(0, 0, 33));
        int[] none = {-1, 3, 9, 15, 19, 25, 29, 34, Integer.MIN_VALUE, Integer.MAX_VALUE};
        for (int what : none) {
            Check.due("measure " + what, -1, x.measure(0, 0, what));
        }
        Check.due("of 0 grams", -1, x.measure(0, 1, 0));
        Check.due("heat of 0 grams", -1, x.measure(0, 1, 2));
        Check.due("tank 10", -1, x.measure(0, 10, 0));
        Check.due("batch 0", -1, x.measure(1, 0, 0));
        x.jar(0, 11);
        Check.due("batch water", 1909, x.measure(1, 0, 0));
        Check.due("batch heat", 9, x.measure(1, 0, 2));
        // A later test counts for what was drawn already.
        x.test(0, 161);
        Check.due("batch water, tested", 1959, x.measure(1, 0, 0));
        Check.due("where 2", -1, x.measure(2, 0, 0));
    }
}
