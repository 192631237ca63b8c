/** Promises 28 to 30: batches of a lot, and where a keeper's grams are. */
public final class TraceTest {
    public static void main(String[] args) {
        traces();
        keepersGrams();
        Check.finish();
    }

    private static HoneyHouse house() {
        HoneyHouse x = new HoneyHouse();
        x.lot(3, 100, 150, 0, 0);
        x.lot(4, 50, 150, 0, 0);
        x.lot(3, 30, 150, 0, 0);
        x.tank(0, 1000, 0);
        x.tank(1, 1000, 0);
        return x;
    }

    private static void traces() {
        HoneyHouse x = house();
        Check.due("no batches", 0, x.trace(0));
        x.pour(0, 0, 50);
        x.pour(1, 1, 20);
        x.jar(0, 10);
        x.jar(1, 10);
        x.jar(0, 10);
        Check.due("nothing traced anew", -1, x.found(0));
        Check.due("trace 0", 2, x.trace(0));
        Check.due("found 0", 0, x.found(0));
        Check.due("found 1", 2, x.found(1));
        Check.due("found 2", -1, x.found(2));
        Check.due("found -1", -1, x.found(-1));
        x.jar(0, 5);
        Check.due("as it was traced", -1, x.found(2));
        Check.due("trace 3", -1, x.trace(3));
        Check.due("trace -1", -1, x.trace(-1));
        Check.due("trace 40", -1, x.trace(40));
        Check.due("a refused trace finds nothing new", 2, x.found(1));
        Check.due("trace 1", 1, x.trace(1));
        Check.due("found of 1", 1, x.found(0));
        Check.due("no more of 0", -1, x.found(1));
        Check.due("trace 2", 0, x.trace(2));
        Check.due("found of 2", -1, x.found(0));
        x.move(1, 0, 10);
        x.jar(0, 35);
        Check.due("trace 1 again", 2, x.trace(1));
        Check.due("found through a move", 4, x.found(1));
        x.pour(2, 1, 1);
        x.jar(1, 1);
        Check.due("one gram", 1, x.trace(2));
        Check.due("found by one gram", 5, x.found(0));
    }

    private static void keepersGrams() {
        HoneyHouse x = house();
        x.pour(0, 0, 60);
        x.pour(2, 1, 30);
        x.move(0, 1, 20);
        x.jar(0, 15);
        x.jar(1, 5);
        x.spill(1, 7);
        Check.due("left", 40, x.whose(3, 0));
        Check.due("in tanks", 63, x.whose(3, 1));
        Check.due("in batches", 20, x.whose(3, 2));
        Check.due("gone", 7, x.whose(3, 3));
        Check.due("left of 4", 50, x.whose(4, 0));
        Check.due("tanks of 4", 0, x.whose(4, 1));
        Check.due("gone of 4", 0, x.whose(4, 3));
        Check.due("of 0", 0, x.whose(0, 0));
        x.lot(9, 12, 150, 0, 0);
        Check.due("of 9", 12, x.whose(9, 0));
        Check.due("what 4", -1, x.whose(3, 4));
        Check.due("what -1", -1, x.whose(3, -1));
        Check.due("keeper 10", -1, x.whose(10, 0));
        Check.due("keeper -1", -1, x.whose(-1, 0));
    }
}
