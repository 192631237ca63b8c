import java.util.Arrays;

/** Term I, for promises 11 to 15: what is drawn of each lot, and the heat that goes with it. */
public final class DrawTest {
    public static void main(String[] args) {
        drawnAreWholeGrams();
        greatestRestMakesUp();
        leastNumberOfLikeRests();
        severalMakeUp();
        noRestMakesUpNothing();
        oneOfOne();
        allIsDrawn();
        lotsFarApart();
        greatNumbers();
        everyCallDrawsAlike();

        emptyTankHasNoHeat();
        pouredIntoEmptyHasNoHeat();
        pouredUponKeepsTheHeat();
        movedIntoEmptyTakesItsHeat();
        movedUponTakesTheGreaterHeat();
        drawnFromKeepsItsHeat();
        emptiedLosesItsHeat();
        Check.finish();
    }

    private static void drawnAreWholeGrams() {
        // 6 of 12 in shares of 6, 4, 2: nothing is rounded.
        HoneyHouse x = Houses.holding(6, 4, 2);
        x.move(0, 1, 6);
        Houses.parts("half", x, 0, 1, 3, 2, 1);
        Houses.parts("the other half", x, 0, 0, 3, 2, 1);
    }

    private static void greatestRestMakesUp() {
        // 1 of 11 (5, 3, 3): no whole gram; the rests are 5, 3, 3.
        HoneyHouse x = Houses.mixed();
        x.move(0, 1, 1);
        Houses.parts("first", x, 0, 1, 1, 0, 0);
        // 1 of 10 (3, 3, 4): the rests are 3, 3, 4.
        HoneyHouse y = Houses.holding(3, 3, 4);
        y.move(0, 1, 1);
        Houses.parts("last", y, 0, 1, 0, 0, 1);
        // 2 of 9 (2, 5, 2): 10/9 is 1 and rest 1; 4/9 is 0 and rest 4: not the most grams.
        HoneyHouse z = Houses.holding(2, 5, 2);
        z.move(0, 1, 2);
        Houses.parts("not the most grams", z, 0, 1, 1, 1, 0);
    }

    private static void leastNumberOfLikeRests() {
        HoneyHouse x = Houses.holding(3, 3, 3);
        x.move(0, 1, 1);
        Houses.parts("one of three", x, 0, 1, 1, 0, 0);
        HoneyHouse y = Houses.holding(3, 3, 3);
        y.move(0, 1, 2);
        Houses.parts("two of three", y, 0, 1, 1, 1, 0);
        // 2 of 10 (4, 3, 3): the rests are 8, 6, 6.
        HoneyHouse z = Houses.holding(4, 3, 3);
        z.move(0, 1, 2);
        Houses.parts("behind a greater one", z, 0, 1, 1, 1, 0);
        // 3 of 8 (2, 1, 2, 3): 6/8, 3/8, 6/8, 9/8 with rests 6, 3, 6, 1.
        HoneyHouse w = Houses.holding(2, 1, 2, 3);
        w.move(0, 1, 3);
        Houses.parts("not side by side", w, 0, 1, 1, 0, 1, 1);
    }

    private static void severalMakeUp() {
        // 6 of 11: 30/11, 18/11, 18/11 are 2, 1, 1 and rests 8, 7, 7: two make up.
        HoneyHouse x = Houses.mixed();
        Check.due("move", 5, x.move(0, 1, 6));
        Houses.parts("to", x, 0, 1, 3, 2, 1);
        Houses.parts("from", x, 0, 0, 2, 1, 2);
        Check.due("back", 0, x.move(1, 0, 6));
        Houses.parts("back", x, 0, 0, 5, 3, 3);
        // 39 of 40 with 40 lots of 1 gram: rests of 39 each, all but the last make up.
        int[] ones = new int[40];
        Arrays.fill(ones, 1);
        HoneyHouse y = Houses.holding(ones);
        y.move(0, 1, 39);
        Check.due("the last one stays", 1, y.part(0, 0, 39));
        Check.due("lots moved", 39, y.holds(0, 1, 1));
        Check.due("lots that stay", 1, y.holds(0, 0, 1));
    }

    private static void noRestMakesUpNothing() {
        // 4 of 8 (3, 2, 3): 1, 1, 1 and rests 4, 0, 4.
        HoneyHouse x = Houses.holding(3, 2, 3);
        x.spill(0, 4);
        Houses.parts("rest 0", x, 0, 0, 1, 1, 2);
    }

    private static void oneOfOne() {
        HoneyHouse x = Houses.holding(1);
        Check.due("move", 0, x.move(0, 1, 1));
        Houses.parts("to", x, 0, 1, 1);
        Check.due("jar", 0, x.jar(1, 1));
        Houses.parts("batch", x, 1, 0, 1);
        Houses.parts("empty", x, 0, 1, 0);
    }

    private static void allIsDrawn() {
        HoneyHouse x = Houses.mixed();
        x.jar(0, 11);
        Houses.parts("batch", x, 1, 0, 5, 3, 3);
        Houses.parts("tank", x, 0, 0, 0, 0, 0);
        Check.due("lots in the tank", 0, x.holds(0, 0, 1));
        HoneyHouse y = Houses.mixed();
        y.jar(0, 10);
        // 50/11, 30/11, 30/11 are 4, 2, 2 and rests 6, 8, 8.
        Houses.parts("all but one", y, 1, 0, 4, 3, 3);
        Houses.parts("one", y, 0, 0, 1, 0, 0);
    }

    private static void lotsFarApart() {
        HoneyHouse x = new HoneyHouse();
        for (int k = 0; k < 40; k++) {
            x.lot(0, 10, 100, 0, 0);
        }
        x.tank(0, 100, 0);
        x.tank(1, 100, 0);
        x.pour(39, 0, 2);
        x.pour(0, 0, 2);
        x.pour(20, 0, 3);
        // 5 of 7: 10/7, 15/7, 10/7 are 1, 2, 1 and rests 3, 1, 3.
        x.move(0, 1, 5);
        Check.due("lot 0", 2, x.part(0, 1, 0));
        Check.due("lot 20", 2, x.part(0, 1, 20));
        Check.due("lot 39", 1, x.part(0, 1, 39));
        Check.due("lots in it", 3, x.holds(0, 1, 1));
    }

    private static void greatNumbers() {
        // Each share is 200000 * 999999 / 1000000 = 199999 with 800000 over: four make up.
        HoneyHouse x = Houses.holding(200000, 200000, 200000, 200000, 200000);
        Check.due("all but one", 1, x.move(0, 1, 999999));
        Houses.parts("the one", x, 0, 0, 0, 0, 0, 0, 1);
        HoneyHouse y = Houses.holding(200000, 199999, 1);
        // 200001 of 400000: 100000.5, 99999.99.., 0.50..: 200000, 399998, 200001 over.
        y.jar(0, 200001);
        Houses.parts("half and one", y, 1, 0, 100000, 100000, 1);
    }

    private static void everyCallDrawsAlike() {
        HoneyHouse moved = Houses.mixed();
        moved.move(0, 1, 6);
        HoneyHouse jarred = Houses.mixed();
        jarred.jar(0, 6);
        HoneyHouse spilled = Houses.mixed();
        spilled.spill(0, 6);
        Houses.parts("moved", moved, 0, 0, 2, 1, 2);
        Houses.parts("jarred", jarred, 0, 0, 2, 1, 2);
        Houses.parts("spilled", spilled, 0, 0, 2, 1, 2);
        Houses.parts("the batch", jarred, 1, 0, 3, 2, 1);
    }

    // ---- HEAT

    private static int heat(HoneyHouse x, int tank) {
        return x.holds(0, tank, 2);
    }

    private static void emptyTankHasNoHeat() {
        HoneyHouse x = Houses.mixed();
        Check.due("never filled", 0, heat(x, 1));
        x.warm(0, 9);
        Check.due("another one is warmed", 0, heat(x, 1));
    }

    private static void pouredIntoEmptyHasNoHeat() {
        HoneyHouse x = Houses.mixed();
        x.lot(0, 5, 100, 0, 0);
        x.warm(0, 9);
        x.spill(0, 11);
        x.pour(3, 0, 1);
        Check.due("poured into one that was warm", 0, heat(x, 0));
        x.pour(3, 1, 1);
        Check.due("poured into a new one", 0, heat(x, 1));
    }

    private static void pouredUponKeepsTheHeat() {
        HoneyHouse x = Houses.mixed();
        x.lot(0, 5, 100, 0, 0);
        x.warm(0, 9);
        x.pour(3, 0, 5);
        Check.due("poured upon", 9, heat(x, 0));
        x.spill(0, 15);
        x.lot(0, 5, 100, 0, 0);
        x.pour(4, 0, 5);
        Check.due("poured upon one gram", 9, heat(x, 0));
    }

    private static void movedIntoEmptyTakesItsHeat() {
        HoneyHouse x = Houses.mixed();
        x.move(0, 1, 1);
        Check.due("cold into empty", 0, heat(x, 1));
        HoneyHouse y = Houses.mixed();
        y.warm(0, 9);
        y.move(0, 1, 1);
        Check.due("warm into empty", 9, heat(y, 1));
        y.warm(1, 5);
        y.spill(1, 1);
        y.move(0, 1, 1);
        Check.due("into one that was warmer", 9, heat(y, 1));
        HoneyHouse z = Houses.mixed();
        z.warm(0, 9);
        z.move(0, 1, 11);
        Check.due("all of it", 9, heat(z, 1));
        Check.due("nothing stays", 0, heat(z, 0));
    }

    private static void movedUponTakesTheGreaterHeat() {
        HoneyHouse x = Houses.mixed();
        x.warm(0, 9);
        x.move(0, 1, 3);
        x.warm(1, 1);
        x.move(1, 0, 1);
        Check.due("the greater comes", 10, heat(x, 0));
        x.warm(0, 2);
        x.move(1, 0, 1);
        Check.due("the greater stays", 12, heat(x, 0));
        x.warm(1, 2);
        x.move(1, 0, 1);
        Check.due("like ones", 12, heat(x, 0));
        HoneyHouse y = Houses.mixed();
        y.warm(0, 9);
        y.move(0, 1, 10);
        y.warm(0, 4);
        y.move(1, 0, 10);
        Check.due("upon one gram", 13, heat(y, 0));
    }

    private static void drawnFromKeepsItsHeat() {
        HoneyHouse x = Houses.mixed();
        x.warm(0, 9);
        x.move(0, 1, 1);
        Check.due("moved from", 9, heat(x, 0));
        x.jar(0, 1);
        Check.due("jarred from", 9, heat(x, 0));
        x.spill(0, 8);
        Check.due("spilled but for one gram", 9, heat(x, 0));
    }

    private static void emptiedLosesItsHeat() {
        HoneyHouse x = Houses.mixed();
        x.warm(0, 9);
        x.spill(0, 11);
        Check.due("spilled", 0, heat(x, 0));
        HoneyHouse y = Houses.mixed();
        y.warm(0, 9);
        y.jar(0, 11);
        Check.due("jarred", 0, heat(y, 0));
        Check.due("the batch has it", 9, y.holds(1, 0, 2));
        HoneyHouse z = Houses.mixed();
        z.warm(0, 9);
        z.move(0, 1, 11);
        Check.due("moved", 0, heat(z, 0));
        z.move(1, 0, 11);
        Check.due("moved back", 9, heat(z, 0));
    }
}
