/** Promise 14: batches of jars. */
public final class JarsTest {
    public static void main(String[] args) {
        jarEdges();
        noTank();
        notSoMany();
        batchesAreNumbered();
        batchHasWhatTheTankHad();
        batchStaysAsItWasDrawn();
        refusedDoesNothing();
        sixtyBatches();
        Check.finish();
    }

    private static void jarEdges() {
        Check.range("jar what there is", 1, 11, n -> Houses.mixed().jar(0, n) == 0);
        Check.range("jar tank", 0, 0, n -> Houses.mixed().jar(n, 1) == 0);
        HoneyHouse x = Houses.mixed();
        x.tank(9, 1, 0);
        x.move(0, 9, 1);
        Check.due("jar tank 9", 0, x.jar(9, 1));
        Check.due("its tank", 9, x.holds(1, 0, 3));
    }

    private static void noTank() {
        Check.due("jar tank -1", -1, Houses.mixed().jar(-1, 1));
        Check.due("jar tank 10", -1, Houses.mixed().jar(10, 1));
        Check.due("no tank is ahead of no grams", -1, Houses.mixed().jar(10, 0));
    }

    private static void notSoMany() {
        Check.due("jar 0", -2, Houses.mixed().jar(0, 0));
        Check.due("jar -1", -2, Houses.mixed().jar(0, -1));
        Check.due("jar 12 of 11", -2, Houses.mixed().jar(0, 12));
        Check.due("jar an empty tank", -2, Houses.mixed().jar(1, 1));
        HoneyHouse x = Houses.mixed();
        Check.due("jar 6", 0, x.jar(0, 6));
        Check.due("jar 6 of 5", -2, x.jar(0, 6));
        Check.due("jar 5 of 5", 1, x.jar(0, 5));
        Check.due("jar one more", -2, x.jar(0, 1));
    }

    private static void batchesAreNumbered() {
        HoneyHouse x = Houses.mixed();
        Check.due("first", 0, x.jar(0, 1));
        x.jar(0, 0);
        x.move(0, 1, 2);
        Check.due("second", 1, x.jar(1, 1));
        Check.due("third", 2, x.jar(0, 1));
        Check.due("count", 3, x.count(1));
    }

    private static void batchHasWhatTheTankHad() {
        HoneyHouse x = Houses.mixed();
        x.today(12);
        x.warm(0, 4);
        x.jar(0, 6);
        Houses.parts("batch", x, 1, 0, 3, 2, 1);
        Check.due("heat", 4, x.holds(1, 0, 2));
        Check.due("tank", 0, x.holds(1, 0, 3));
        Check.due("day", 12, x.holds(1, 0, 4));
        x.today(30000);
        x.move(0, 1, 5);
        x.jar(1, 5);
        Houses.parts("second batch", x, 1, 1, 2, 1, 2);
        Check.due("second heat", 4, x.holds(1, 1, 2));
        Check.due("second tank", 1, x.holds(1, 1, 3));
        Check.due("second day", 30000, x.holds(1, 1, 4));
    }

    private static void batchStaysAsItWasDrawn() {
        HoneyHouse x = Houses.mixed();
        x.warm(0, 4);
        x.jar(0, 6);
        x.warm(0, 3);
        x.spill(0, 2);
        x.tank(0, 50, 9);
        x.today(5);
        x.jar(0, 1);
        Houses.parts("batch", x, 1, 0, 3, 2, 1);
        Check.due("heat", 4, x.holds(1, 0, 2));
        Check.due("tank", 0, x.holds(1, 0, 3));
        Check.due("day", 0, x.holds(1, 0, 4));
    }

    private static void refusedDoesNothing() {
        int[][] refused = {{-1, 1}, {10, 1}, {0, 0}, {0, -1}, {0, 12}, {1, 1}};
        for (int[] r : refused) {
            HoneyHouse x = Houses.mixed();
            x.warm(0, 7);
            String at = "jar " + r[0] + " " + r[1];
            Check.due(at, true, x.jar(r[0], r[1]) < 0);
            Houses.parts(at, x, 0, 0, 5, 3, 3);
            Check.due(at + ", heat", 7, x.holds(0, 0, 2));
            Check.due(at + ", count", 0, x.count(1));
            Check.due(at + ", no batch", -1, x.holds(1, 0, 0));
        }
    }

    private static void sixtyBatches() {
        HoneyHouse x = Houses.holding(100);
        x.warm(0, 3);
        for (int k = 0; k < 60; k++) {
            Check.due("jar " + k, k, x.jar(0, 1));
        }
        Check.due("jar 60", -3, x.jar(0, 1));
        Check.due("count", 60, x.count(1));
        Check.due("nothing is drawn", 40, x.holds(0, 0, 0));
        Check.due("not so many is ahead of 60", -2, x.jar(0, 41));
        Check.due("no grams are ahead of 60", -2, x.jar(0, 0));
        Check.due("no tank is ahead of 60", -1, x.jar(10, 1));
        Check.due("all that is there", -3, x.jar(0, 40));
        Check.due("heat stays", 3, x.holds(0, 0, 2));
        Check.due("batch 59", 1, x.holds(1, 59, 0));
        Check.due("batch 60", -1, x.holds(1, 60, 0));
        Check.due("part of batch 59", 1, x.part(1, 59, 0));
        Check.due("part of batch 60", -1, x.part(1, 60, 0));
        Check.due("measure of batch 59", 1000, x.measure(1, 59, 0));
        Check.due("measure of batch 60", -1, x.measure(1, 60, 0));
        Check.due("trace", 60, x.trace(0));
        Check.due("found 59", 59, x.found(59));
        Check.due("found 60", -1, x.found(60));
        Check.due("grams in batches", 60, x.whose(0, 2));
        Check.due("move is still there", 0, x.move(0, 1, 40));
    }
}
