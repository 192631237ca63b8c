import java.nio.charset.StandardCharsets;
import java.util.Random;

/** All promises: runs of up to 512 calls, each answered by the class and by ModelHouse. */
public final class ModelTest {
    private static final int RUNS = 1600;
    // Behind its 512th call an object may answer what it likes.
    private static final int MOST_CALLS = 512;
    // A rule that is told: twenty feeds, the end, the rule, two faults, a shut.
    private static final int CALLS_AT_ONCE = 25;

    private final Random random;
    private final HoneyHouse x = new HoneyHouse();
    private final ModelHouse m = new ModelHouse();
    private final int run;
    private int calls;

    private ModelTest(int run) {
        this.run = run;
        random = new Random(run);
    }

    public static void main(String[] args) {
        for (int run = 0; run < RUNS && Check.wrongSoFar() == 0; run++) {
            ModelTest one = new ModelTest(run);
            one.play();
        }
        Check.finish();
    }

    private void play() {
        int kind = run % 5;
        if (run % 3 != 0) {
            stock(run % 3 == 1 ? 200000 : 40);
        }
        while (calls + CALLS_AT_ONCE <= MOST_CALLS && Check.wrongSoFar() == 0) {
            int roll = random.nextInt(100);
            if (roll < 45) {
                ask(random.nextInt(16));
            } else if (kind == 0 && roll < 80) {
                tellRule();
            } else if (kind == 1 && roll < 75) {
                blend();
            } else if (kind == 2 && roll < 75) {
                jar();
            } else {
                change(random.nextInt(14));
            }
        }
    }

    /** Four tanks with something in them, so that there is much to draw, name and blend. */
    private void stock(int grams) {
        for (int tank = 0; tank < 4; tank++) {
            int price = random.nextInt(4);
            due("tank " + tank, m.tank(tank, 1000000, price), x.tank(tank, 1000000, price));
        }
        for (int lot = 0; lot < 12; lot++) {
            int much = 1 + random.nextInt(grams);
            int water = 100 + random.nextInt(201);
            int colour = random.nextInt(141);
            due("lot", m.lot(lot % 3, much, water, colour, lot % 4),
                x.lot(lot % 3, much, water, colour, lot % 4));
            due("pour", m.pour(lot, lot % 4, much), x.pour(lot, lot % 4, much));
        }
    }

    /** Each of these is one call of the class: what it is asked with is chosen by the model. */
    private void due(String call, long want, long got) {
        calls++;
        Check.due("run " + run + ": " + call, want, got);
    }

    private void due(String call, boolean want, boolean got) {
        calls++;
        Check.due("run " + run + ": " + call, want, got);
    }

    /** Mostly a number that can be; else one at or beyond an edge. */
    private int some(int least, int most) {
        switch (random.nextInt(24)) {
            case 0: return least - 1;
            case 1: return most + 1;
            case 2: return least;
            case 3: return most;
            case 4: return random.nextInt(8) == 0 ? random.nextInt() : least;
            default: return least + random.nextInt(most - least + 1);
        }
    }

    private int someLot() {
        return some(0, Math.max(0, m.count(0) - 1));
    }

    private int someTank() {
        return random.nextInt(4) == 0 ? some(0, 9) : some(0, 3);
    }

    private int someDay() {
        return random.nextInt(5) == 0 ? some(0, 30000) : some(0, 40);
    }

    private void change(int which) {
        switch (which) {
            case 0:
            case 1: addLot(); break;
            case 2: setPollen(); break;
            case 3: setTest(); break;
            case 4: setTank(); break;
            case 5:
            case 6:
            case 7: pour(); break;
            case 8: move(); break;
            case 9: warm(); break;
            case 10: jar(); break;
            case 11: spill(); break;
            case 12: stepOrDay(); break;
            default: tellRule();
        }
    }

    private void addLot() {
        int a = some(0, 9);
        int grams = random.nextInt(3) == 0 ? some(1, 30) : some(1, 200000);
        int c = some(100, 300);
        int d = some(0, 140);
        int e = some(0, 3);
        due("lot " + a + " " + grams, m.lot(a, grams, c, d, e), x.lot(a, grams, c, d, e));
    }

    private void setPollen() {
        int lot = someLot();
        int kind = some(0, 4);
        int low = some(0, 300);
        int high = some(Math.min(Math.max(0, low), 1000), 1000);
        due("pollen " + low + " " + high, m.pollen(lot, kind, low, high),
            x.pollen(lot, kind, low, high));
    }

    private void setTest() {
        int lot = someLot();
        int water = some(100, 300);
        due("test " + lot + " " + water, m.test(lot, water), x.test(lot, water));
    }

    private void setTank() {
        int tank = someTank();
        int room = random.nextInt(3) == 0 ? some(0, 50) : some(0, 1000000);
        int price = random.nextInt(2) == 0 ? some(0, 3) : some(0, 10000);
        due("tank " + tank + " " + room, m.tank(tank, room, price), x.tank(tank, room, price));
    }

    private void pour() {
        int lot = someLot();
        int tank = someTank();
        int grams = some(1, Math.max(1, m.of(lot, 5)));
        due("pour " + lot + " " + tank + " " + grams, m.pour(lot, tank, grams),
            x.pour(lot, tank, grams));
    }

    private int someOf(int tank) {
        int all = Math.max(1, m.holds(0, tank, 0));
        return random.nextInt(2) == 0 ? some(1, all) : some(1, Math.max(1, all / 50));
    }

    private void move() {
        int from = someTank();
        int to = someTank();
        int grams = someOf(from);
        due("move " + from + " " + to + " " + grams, m.move(from, to, grams),
            x.move(from, to, grams));
    }

    private void warm() {
        int tank = someTank();
        int hours = random.nextInt(2) == 0 ? some(1, 5) : some(1, 1000);
        due("warm " + tank + " " + hours, m.warm(tank, hours), x.warm(tank, hours));
    }

    private void jar() {
        int tank = someTank();
        int grams = someOf(tank);
        due("jar " + tank + " " + grams, m.jar(tank, grams), x.jar(tank, grams));
    }

    private void spill() {
        int tank = someTank();
        int grams = someOf(tank);
        due("spill " + tank + " " + grams, m.spill(tank, grams), x.spill(tank, grams));
    }

    private void stepOrDay() {
        if (random.nextInt(4) == 0) {
            int day = m.count(3) + some(0, 20);
            due("today " + day, m.today(day), x.today(day));
            return;
        }
        int k = some(0, 3);
        int water = some(100, 300);
        int price = some(0, 100000);
        due("step " + k, m.step(k, water, price), x.step(k, water, price));
    }

    private void blend() {
        int bits = random.nextInt(8) == 0 ? random.nextInt() : random.nextInt(16);
        int parts = some(1, 40);
        int water = some(150, 300);
        int least = some(0, 60);
        int most = some(50, 140);
        due("blend " + bits + " " + parts + " " + water + " " + least + " " + most,
            m.blend(bits, parts, water, least, most), x.blend(bits, parts, water, least, most));
        for (int tank = -1; tank <= 10; tank++) {
            due("parts " + tank, m.parts(tank), x.parts(tank));
        }
    }

    private void tellRule() {
        String text = new RandomText(random).make();
        byte[] bytes = text.getBytes(StandardCharsets.ISO_8859_1);
        int length = Math.min(bytes.length, 400);
        for (int at = 0; at < length; at += 20) {
            int[] n = new int[5];
            for (int k = 0; k < 20; k++) {
                n[k / 4] = n[k / 4] << 8 | (at + k < bytes.length ? bytes[at + k] & 255 : 'q');
            }
            due("feed", m.feed(n[0], n[1], n[2], n[3], n[4]), x.feed(n[0], n[1], n[2], n[3], n[4]));
        }
        due("end " + length, m.end(length), x.end(length));
        due("rule " + text, m.rule(), x.rule());
        due("fault 0 of " + text, m.fault(0), x.fault(0));
        due("fault 1 of " + text, m.fault(1), x.fault(1));
        if (random.nextInt(4) == 0) {
            int rule = some(0, 15);
            int day = someDay();
            due("shut " + rule + " " + day, m.shut(rule, day), x.shut(rule, day));
        }
    }

    private void ask(int which) {
        int where = some(0, 1);
        int n = where == 0 ? someTank() : some(0, Math.max(0, m.count(1) - 1));
        int lot = someLot();
        int keeper = some(0, 9);
        int what = some(0, 6);
        switch (which) {
            case 0: due("of", m.of(lot, what), x.of(lot, what)); break;
            case 1: due("span", m.span(lot, what, where), x.span(lot, what, where)); break;
            case 2: due("holds", m.holds(where, n, what), x.holds(where, n, what)); break;
            case 3:
            case 4: due("part", m.part(where, n, lot), x.part(where, n, lot)); break;
            case 5:
            case 6:
                int measure = some(0, 34);
                due("measure", m.measure(where, n, measure), x.measure(where, n, measure));
                break;
            case 7:
            case 8:
            case 9:
                int rule = some(0, Math.max(0, m.count(2) - 1));
                due("says", m.says(rule, where, n), x.says(rule, where, n));
                break;
            case 10:
            case 11:
                int day = someDay();
                due("name", m.name(where, n, day), x.name(where, n, day));
                break;
            case 12: due("paid", m.paid(keeper), x.paid(keeper)); break;
            case 13:
                due("trace", m.trace(lot), x.trace(lot));
                due("found", m.found(what), x.found(what));
                break;
            case 14: due("whose", m.whose(keeper, what), x.whose(keeper, what)); break;
            default: due("count", m.count(what), x.count(what));
        }
    }
}
