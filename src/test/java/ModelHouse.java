import java.math.BigInteger;
import java.util.ArrayList;
import java.util.Collections;
import java.util.HashMap;
import java.util.List;
import java.util.Map;
import java.util.TreeMap;

/** The document written a second time, slowly and with the Java library, for ModelTest. */
final class ModelHouse {
    static final class Lot {
        int keeper;
        int grams;
        int water;
        int colour;
        int land;
        int left;
        int paid;
        int gone;
        int[][] span = {{0, 1000}, {0, 1000}, {0, 1000}, {0, 1000}, {0, 1000}};
        int[][] steps = new int[4][];
    }

    static final class Place {
        TreeMap<Integer, Integer> grams = new TreeMap<>();
        int heat;
        int room;
        int price;

        int total() {
            int sum = 0;
            for (int g : grams.values()) {
                sum += g;
            }
            return sum;
        }
    }

    private final StringBuilder tape = new StringBuilder();
    private final List<Lot> lots = new ArrayList<>();
    private final List<Place> tanks = new ArrayList<>();
    private final List<Place> batches = new ArrayList<>();
    private final List<ModelText> rules = new ArrayList<>();
    private final Map<Integer, Integer> shutDays = new HashMap<>();
    private final int[][] steps = new int[4][2];
    private ModelText latest;
    private int[] blended;
    private List<Integer> found = new ArrayList<>();
    private int today;

    ModelHouse() {
        for (int k = 0; k < 10; k++) {
            tanks.add(new Place());
        }
    }

    int feed(int a, int b, int c, int d, int e) {
        if (tape.length() + 20 > 400) {
            return -1;
        }
        for (int n : new int[] {a, b, c, d, e}) {
            tape.append((char) (n >>> 24)).append((char) (n >>> 16 & 255));
            tape.append((char) (n >>> 8 & 255)).append((char) (n & 255));
        }
        return tape.length();
    }

    boolean end(int n) {
        if (n < 0 || n > tape.length()) {
            return false;
        }
        tape.setLength(n);
        return true;
    }

    boolean today(int day) {
        boolean can = day >= today && day <= 30000;
        today = can ? day : today;
        return can;
    }

    private static boolean out(int n, int least, int most) {
        return n < least || n > most;
    }

    private int payOf(Lot lot) {
        for (int[] step : lot.steps) {
            if (lot.water <= step[0]) {
                return BigInteger.valueOf(lot.grams).multiply(BigInteger.valueOf(step[1]))
                    .divide(BigInteger.valueOf(1000)).intValueExact();
            }
        }
        return 0;
    }

    int lot(int keeper, int grams, int water, int colour, int land) {
        if (out(keeper, 0, 9) || out(grams, 1, 200000) || out(water, 100, 300)
            || out(colour, 0, 140) || out(land, 0, 3) || lots.size() == 40) {
            return -1;
        }
        Lot it = new Lot();
        it.keeper = keeper;
        it.grams = grams;
        it.left = grams;
        it.water = water;
        it.colour = colour;
        it.land = land;
        for (int k = 0; k < 4; k++) {
            it.steps[k] = steps[k].clone();
        }
        it.paid = payOf(it);
        lots.add(it);
        return lots.size() - 1;
    }

    private boolean noLot(int lot) {
        return out(lot, 0, lots.size() - 1);
    }

    boolean pollen(int lot, int kind, int low, int high) {
        if (noLot(lot) || out(kind, 0, 4) || out(low, 0, 1000) || out(high, low, 1000)) {
            return false;
        }
        int lows = low;
        int highs = high;
        for (int k = 0; k < 5; k++) {
            lows += k == kind ? 0 : lots.get(lot).span[k][0];
            highs += k == kind ? 0 : lots.get(lot).span[k][1];
        }
        if (lows > 1000 || highs < 1000) {
            return false;
        }
        lots.get(lot).span[kind] = new int[] {low, high};
        return true;
    }

    int test(int lot, int water) {
        if (noLot(lot) || out(water, 100, 300)) {
            return -1000000000;
        }
        Lot it = lots.get(lot);
        it.water = water;
        int more = payOf(it) - it.paid;
        it.paid += more;
        return more;
    }

    int of(int lot, int what) {
        if (noLot(lot) || out(what, 0, 6)) {
            return -1;
        }
        Lot it = lots.get(lot);
        return new int[] {it.keeper, it.grams, it.water, it.colour, it.land, it.left,
            it.paid}[what];
    }

    int span(int lot, int kind, int what) {
        return noLot(lot) || out(kind, 0, 4) || out(what, 0, 1) ? -1
            : lots.get(lot).span[kind][what];
    }

    boolean tank(int tank, int room, int price) {
        if (out(tank, 0, 9) || out(room, 0, 1000000) || out(price, 0, 10000)
            || tanks.get(tank).total() > room) {
            return false;
        }
        tanks.get(tank).room = room;
        tanks.get(tank).price = price;
        return true;
    }

    int pour(int lot, int tank, int grams) {
        if (noLot(lot) || out(tank, 0, 9)) {
            return -1;
        }
        Lot it = lots.get(lot);
        Place to = tanks.get(tank);
        if (out(grams, 1, it.left) || to.total() + grams > to.room) {
            return -2;
        }
        it.left -= grams;
        to.grams.merge(lot, grams, Integer::sum);
        return it.left;
    }

    /** Takes x grams of a tank out of it, by lots. */
    private TreeMap<Integer, Integer> draw(Place tank, int x) {
        BigInteger whole = BigInteger.valueOf(tank.total());
        TreeMap<Integer, Integer> drawn = new TreeMap<>();
        Map<Integer, BigInteger> rests = new HashMap<>();
        int lacks = x;
        for (int lot : tank.grams.keySet()) {
            BigInteger xw = BigInteger.valueOf(x).multiply(BigInteger.valueOf(tank.grams.get(lot)));
            drawn.put(lot, xw.divide(whole).intValueExact());
            rests.put(lot, xw.mod(whole));
            lacks -= drawn.get(lot);
        }
        List<Integer> order = new ArrayList<>(drawn.keySet());
        order.sort((a, b) -> rests.get(b).compareTo(rests.get(a)));
        for (int lot : order.subList(0, lacks)) {
            drawn.merge(lot, 1, Integer::sum);
        }
        for (int lot : drawn.keySet()) {
            tank.grams.merge(lot, -drawn.get(lot), Integer::sum);
        }
        tank.grams.values().removeAll(Collections.singleton(0));
        drawn.values().removeAll(Collections.singleton(0));
        if (tank.grams.isEmpty()) {
            tank.heat = 0;
        }
        return drawn;
    }

    int move(int from, int to, int grams) {
        if (out(from, 0, 9) || out(to, 0, 9) || from == to) {
            return -1;
        }
        Place a = tanks.get(from);
        Place b = tanks.get(to);
        if (out(grams, 1, a.total()) || b.total() + grams > b.room) {
            return -2;
        }
        b.heat = b.grams.isEmpty() ? a.heat : Math.max(a.heat, b.heat);
        draw(a, grams).forEach((lot, g) -> b.grams.merge(lot, g, Integer::sum));
        return a.total();
    }

    int warm(int tank, int hours) {
        if (out(tank, 0, 9) || out(hours, 1, 1000) || tanks.get(tank).grams.isEmpty()) {
            return -1;
        }
        tanks.get(tank).heat += hours;
        return tanks.get(tank).heat;
    }

    int jar(int tank, int grams) {
        if (out(tank, 0, 9)) {
            return -1;
        }
        if (out(grams, 1, tanks.get(tank).total())) {
            return -2;
        }
        if (batches.size() == 60) {
            return -3;
        }
        Place batch = new Place();
        batch.heat = tanks.get(tank).heat;
        batch.grams = draw(tanks.get(tank), grams);
        batch.room = tank;
        batch.price = today;
        batches.add(batch);
        return batches.size() - 1;
    }

    int spill(int tank, int grams) {
        if (out(tank, 0, 9)) {
            return -1;
        }
        if (out(grams, 1, tanks.get(tank).total())) {
            return -2;
        }
        draw(tanks.get(tank), grams).forEach((lot, g) -> lots.get(lot).gone += g);
        return tanks.get(tank).total();
    }

    private Place place(int where, int n) {
        if (out(where, 0, 1)) {
            return null;
        }
        List<Place> all = where == 0 ? tanks : batches;
        return out(n, 0, all.size() - 1) ? null : all.get(n);
    }

    int holds(int where, int n, int what) {
        Place it = place(where, n);
        if (it == null || out(what, 0, 4)) {
            return -1;
        }
        return new int[] {it.total(), it.grams.size(), it.heat, it.room, it.price}[what];
    }

    int part(int where, int n, int lot) {
        Place it = place(where, n);
        return it == null || noLot(lot) ? -1 : it.grams.getOrDefault(lot, 0);
    }

    private BigInteger sum(Place it, int what) {
        BigInteger sum = BigInteger.ZERO;
        for (int n : it.grams.keySet()) {
            Lot lot = lots.get(n);
            int each = what == 0 ? lot.water : what == 1 ? lot.colour
                : what >= 30 ? (lot.land == what - 30 ? 1000 : 0)
                : lot.span[what % 10][what / 10 - 1];
            sum = sum.add(BigInteger.valueOf(each).multiply(BigInteger.valueOf(it.grams.get(n))));
        }
        return sum;
    }

    int measure(int where, int n, int what) {
        Place it = place(where, n);
        if (it == null || it.grams.isEmpty() || out(what, 0, 2) && out(what, 10, 14)
            && out(what, 20, 24) && out(what, 30, 33)) {
            return -1;
        }
        return what == 2 ? it.heat : sum(it, what).multiply(BigInteger.TEN)
            .divide(BigInteger.valueOf(it.total())).intValueExact();
    }

    int rule() {
        latest = new ModelText(tape.toString());
        tape.setLength(0);
        if (latest.fault != 0) {
            return -1;
        }
        if (rules.size() == 16) {
            return -2;
        }
        rules.add(latest);
        return rules.size() - 1;
    }

    int fault(int what) {
        if (what == 0) {
            return latest == null ? 0 : latest.fault;
        }
        return what == 1 && latest != null ? latest.place : -1;
    }

    boolean shut(int rule, int day) {
        if (out(rule, 0, rules.size() - 1) || shutDays.containsKey(rule)
            || day < rules.get(rule).from) {
            return false;
        }
        shutDays.put(rule, day);
        return true;
    }

    private boolean compare(Place it, String word, int number, boolean high, boolean isMax, int n) {
        BigInteger whole = BigInteger.valueOf(it.total());
        BigInteger side;
        switch (word) {
            case "water": side = sum(it, 0); break;
            case "colour": side = sum(it, 1); break;
            case "heat": side = whole.multiply(BigInteger.valueOf(it.heat)); break;
            case "pollen": side = sum(it, (high ? 20 : 10) + number); break;
            default: side = sum(it, 30 + number);
        }
        int sign = side.compareTo(whole.multiply(BigInteger.valueOf(n)));
        return isMax ? sign <= 0 : sign >= 0;
    }

    int says(int rule, int where, int n) {
        Place it = place(where, n);
        if (it == null || it.grams.isEmpty() || out(rule, 0, rules.size() - 1)) {
            return -1;
        }
        ModelText.Measures of = (word, number, high, isMax, bound) ->
            compare(it, word, number, high, isMax, bound);
        return rules.get(rule).is(true, of) ? 2 : rules.get(rule).is(false, of) ? 1 : 0;
    }

    int name(int where, int n, int day) {
        Map<String, Integer> inForce = new HashMap<>();
        for (int k = 0; k < rules.size(); k++) {
            ModelText it = rules.get(k);
            Integer before = inForce.get(it.name);
            if (it.from <= day && (before == null || rules.get(before).from <= it.from)) {
                inForce.put(it.name, k);
            }
        }
        int best = -1;
        for (int k : inForce.values()) {
            boolean open = !shutDays.containsKey(k) || shutDays.get(k) > day;
            if (open && says(k, where, n) == 2 && (best == -1 || k < best)) {
                best = k;
            }
        }
        return best;
    }

    boolean step(int k, int water, int price) {
        if (out(k, 0, 3) || out(water, 0, 300) || out(price, 0, 100000)) {
            return false;
        }
        steps[k] = new int[] {water, price};
        return true;
    }

    long paid(int keeper) {
        return out(keeper, 0, 9) ? -1
            : lots.stream().filter(l -> l.keeper == keeper).mapToLong(l -> l.paid).sum();
    }

    int blend(int bits, int parts, int water, int least, int most) {
        List<Integer> chosen = new ArrayList<>();
        for (int k = 0; k < 32; k++) {
            if ((bits >>> k & 1) == 1) {
                chosen.add(k);
            }
        }
        if (out(chosen.size(), 1, 4) || out(parts, 1, 40) || out(water, 0, 300)
            || out(least, 0, 140) || out(most, 0, 140)) {
            return -1;
        }
        for (int k : chosen) {
            if (k > 9 || tanks.get(k).grams.isEmpty()) {
                return -1;
            }
        }
        int[] best = null;
        int bestPrice = -2;
        List<int[]> all = new ArrayList<>();
        spread(chosen, 0, parts, new int[10], all);
        // From the last on, so that "no dearer" leaves the first of like ones.
        Collections.reverse(all);
        for (int[] some : all) {
            int price = 0;
            int wet = 0;
            int dark = 0;
            for (int k : chosen) {
                price += some[k] * tanks.get(k).price;
                wet += some[k] * measure(0, k, 0);
                dark += some[k] * measure(0, k, 1);
            }
            boolean fits = wet <= parts * 10 * water && dark >= parts * 10 * least
                && dark <= parts * 10 * most;
            if (fits && (best == null || price <= bestPrice)) {
                best = some;
                bestPrice = price;
            }
        }
        blended = best == null ? blended : best;
        return bestPrice;
    }

    private void spread(List<Integer> chosen, int at, int left, int[] some, List<int[]> all) {
        if (at == chosen.size()) {
            if (left == 0) {
                all.add(some.clone());
            }
            return;
        }
        int tank = chosen.get(at);
        int most = Math.min(left, tanks.get(tank).total() / 1000);
        for (int n = 0; n <= most; n++) {
            some[tank] = n;
            spread(chosen, at + 1, left - n, some, all);
        }
        some[tank] = 0;
    }

    int parts(int tank) {
        return blended == null || out(tank, 0, 9) ? -1 : blended[tank];
    }

    int trace(int lot) {
        if (noLot(lot)) {
            return -1;
        }
        found = new ArrayList<>();
        for (int k = 0; k < batches.size(); k++) {
            if (batches.get(k).grams.containsKey(lot)) {
                found.add(k);
            }
        }
        return found.size();
    }

    int found(int k) {
        return out(k, 0, found.size() - 1) ? -1 : found.get(k);
    }

    long whose(int keeper, int what) {
        if (out(keeper, 0, 9) || out(what, 0, 3)) {
            return -1;
        }
        long sum = 0;
        for (int k = 0; k < lots.size(); k++) {
            Lot it = lots.get(k);
            if (it.keeper != keeper) {
                continue;
            }
            sum += what == 0 ? it.left : what == 3 ? it.gone : 0;
            for (Place p : what == 1 ? tanks : what == 2 ? batches : new ArrayList<Place>()) {
                sum += p.grams.getOrDefault(k, 0);
            }
        }
        return sum;
    }

    int count(int what) {
        return out(what, 0, 3) ? -1
            : new int[] {lots.size(), batches.size(), rules.size(), today}[what];
    }
}
