/** Houses that several tests begin with. */
final class Houses {
    private Houses() {
    }

    /** Lots 0, 1, 2 of 5, 3 and 3 grams, poured into tank 0; tank 1 is empty, both have room. */
    static HoneyHouse mixed() {
        HoneyHouse x = new HoneyHouse();
        x.lot(0, 5, 150, 10, 0);
        x.lot(1, 3, 200, 20, 1);
        x.lot(2, 3, 250, 31, 1);
        x.tank(0, 1000, 7);
        x.tank(1, 1000, 8);
        x.pour(0, 0, 5);
        x.pour(1, 0, 3);
        x.pour(2, 0, 3);
        return x;
    }

    /** Tank 0 holds what is told, the grams of lot 0, 1 and so on; tank 1 is empty, with room. */
    static HoneyHouse holding(int... grams) {
        HoneyHouse x = new HoneyHouse();
        x.tank(0, 1000000, 0);
        x.tank(1, 1000000, 0);
        for (int lot = 0; lot < grams.length; lot++) {
            x.lot(0, Math.max(1, grams[lot]), 100, 0, 0);
            x.pour(lot, 0, grams[lot]);
        }
        return x;
    }

    /** How many grams of lot 0, 1 and so on are in a tank (where 0) or batch (1). */
    static void parts(String at, HoneyHouse x, int where, int n, int... due) {
        int total = 0;
        for (int lot = 0; lot < due.length; lot++) {
            Check.due(at + ", lot " + lot, due[lot], x.part(where, n, lot));
            total += due[lot];
        }
        Check.due(at + ", in all", total, x.holds(where, n, 0));
    }
}
