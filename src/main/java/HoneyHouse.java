import java.util.Arrays;

/** A honey house: lots, tanks, batches of jars, rules of naming, pay and blends. */
public final class HoneyHouse {
    public static final int NONE = -1;

    private static final int MOST_LOTS = 40;
    private static final int MOST_BATCHES = 60;
    private static final int MOST_RULES = 16;
    private static final int TANKS = 10;
    private static final int KEEPERS = 10;
    private static final int KINDS = 5;
    private static final int LANDS = 4;
    private static final int STEPS = 4;
    private static final int BLEND_TANKS = 4;

    private static final int LAST_DAY = 30000;
    private static final int MOST_GRAMS = 200000;
    private static final int MOST_ROOM = 1000000;
    private static final int LEAST_WATER = 100;
    private static final int MOST_WATER = 300;
    private static final int MOST_COLOUR = 140;
    private static final int MOST_TANK_PRICE = 10000;
    private static final int MOST_STEP_PRICE = 100000;
    private static final int MOST_HOURS = 1000;
    private static final int MOST_PARTS = 40;
    private static final int WHOLE = 1000;

    private static final int MOST_BYTES = 400;
    private static final int BYTES_A_FEED = 20;
    private static final int NAME_LETTERS = 12;
    private static final int NUMBER_DIGITS = 5;
    private static final int MOST_OPEN = 6;

    private static final int NO_SUCH = -1;
    private static final int NOT_SO_MANY = -2;
    private static final int BATCHES_FULL = -3;
    private static final int RULES_FULL = -2;
    private static final int NO_BLEND = -2;
    private static final int NO_TEST = -1000000000;

    // What measure() calls its measures; rules keep the same numbers.
    private static final int WATER = 0;
    private static final int COLOUR = 1;
    private static final int HEAT = 2;
    private static final int POLLEN_LOW = 10;
    private static final int POLLEN_HIGH = 20;
    private static final int LAND = 30;

    private static final int SURE = 2;
    private static final int POSSIBLE = 1;
    private static final int NEITHER = 0;

    // A rule's code: what is not one of these is a test (see RuleReader.testCode).
    private static final int CODE_NOT = -1;
    private static final int CODE_AND = -2;
    private static final int CODE_OR = -3;
    private static final int NUMBER_BITS = 10;

    // Inside six brackets each level leaves two open sides at most: 14, and the test at hand.
    private static final int VERDICTS = 16;

    private final Lot[] lots = new Lot[MOST_LOTS];
    private final Vessel[] tanks = new Vessel[TANKS];
    private final Vessel[] batches = new Vessel[MOST_BATCHES];
    private final Rule[] rules = new Rule[MOST_RULES];
    private final Steps stepsNow = new Steps();
    private final RuleReader reader = new RuleReader();
    private final Draught draught = new Draught();
    private final Blender blender = new Blender();
    private final int[] verdicts = new int[VERDICTS];
    private final int[] foundBatches = new int[MOST_BATCHES];
    private int lotCount;
    private int batchCount;
    private int ruleCount;
    private int foundCount;
    private int dayNow;

    public HoneyHouse() {
        for (int k = 0; k < tanks.length; k++) {
            tanks[k] = new Vessel(0, 0);
        }
    }

    public int feed(int a, int b, int c, int d, int e) {
        Tape tape = reader.tape;
        if (tape.length > MOST_BYTES - BYTES_A_FEED) {
            return NONE;
        }
        tape.append(a);
        tape.append(b);
        tape.append(c);
        tape.append(d);
        tape.append(e);
        return tape.length;
    }

    public boolean end(int n) {
        if (n < 0 || n > reader.tape.length) {
            return false;
        }
        reader.tape.length = n;
        return true;
    }

    public boolean today(int day) {
        if (day < dayNow || day > LAST_DAY) {
            return false;
        }
        dayNow = day;
        return true;
    }

    // ---- lots, tanks, batches

    public int lot(int keeper, int grams, int water, int colour, int land) {
        boolean itCan = isIn(keeper, 0, KEEPERS - 1) && isIn(grams, 1, MOST_GRAMS)
            && isIn(water, LEAST_WATER, MOST_WATER) && isIn(colour, 0, MOST_COLOUR)
            && isIn(land, 0, LANDS - 1);
        if (!itCan || lotCount >= lots.length) {
            return NONE;
        }
        lots[lotCount] = new Lot(keeper, grams, water, colour, land, stepsNow);
        lotCount++;
        return lotCount - 1;
    }

    public boolean pollen(int lot, int kind, int low, int high) {
        Lot it = lotAt(lot);
        if (it == null || !isIn(kind, 0, KINDS - 1)) {
            return false;
        }
        if (low < 0 || high > WHOLE || low > high) {
            return false;
        }
        if (sumWith(it.low, kind, low) > WHOLE || sumWith(it.high, kind, high) < WHOLE) {
            return false;
        }
        it.low[kind] = low;
        it.high[kind] = high;
        return true;
    }

    public int test(int lot, int water) {
        Lot it = lotAt(lot);
        if (it == null || !isIn(water, LEAST_WATER, MOST_WATER)) {
            return NO_TEST;
        }
        int before = it.pay;
        it.water = water;
        it.pay = it.steps.payFor(it.grams, water);
        return it.pay - before;
    }

    public int of(int lot, int what) {
        Lot it = lotAt(lot);
        if (it == null) {
            return NONE;
        }
        switch (what) {
            case 0: return it.keeper;
            case 1: return it.grams;
            case 2: return it.water;
            case 3: return it.colour;
            case 4: return it.land;
            case 5: return it.left;
            case 6: return it.pay;
            default: return NONE;
        }
    }

    public int span(int lot, int kind, int what) {
        Lot it = lotAt(lot);
        if (it == null || !isIn(kind, 0, KINDS - 1) || !isIn(what, 0, 1)) {
            return NONE;
        }
        return what == 0 ? it.low[kind] : it.high[kind];
    }

    public boolean tank(int tank, int room, int price) {
        Vessel it = tankAt(tank);
        if (it == null || !isIn(room, 0, MOST_ROOM) || !isIn(price, 0, MOST_TANK_PRICE)) {
            return false;
        }
        if (it.total > room) {
            return false;
        }
        it.roomOrTank = room;
        it.priceOrDay = price;
        return true;
    }

    public int pour(int lot, int tank, int grams) {
        Lot from = lotAt(lot);
        Vessel to = tankAt(tank);
        if (from == null || to == null) {
            return NO_SUCH;
        }
        if (!isIn(grams, 1, from.left) || !to.hasRoomFor(grams)) {
            return NOT_SO_MANY;
        }
        from.left -= grams;
        to.addGrams(lot, grams);
        return from.left;
    }

    public int move(int from, int to, int grams) {
        Vessel source = tankAt(from);
        Vessel target = tankAt(to);
        if (source == null || target == null || from == to) {
            return NO_SUCH;
        }
        if (!isIn(grams, 1, source.total) || !target.hasRoomFor(grams)) {
            return NOT_SO_MANY;
        }
        int heat = source.heat;
        draught.drawFrom(source, grams);
        draught.fillInto(target, heat);
        return source.total;
    }

    public int warm(int tank, int hours) {
        Vessel it = tankAt(tank);
        if (it == null || it.total == 0 || !isIn(hours, 1, MOST_HOURS)) {
            return NONE;
        }
        it.heat += hours;
        return it.heat;
    }

    public int jar(int tank, int grams) {
        Vessel source = tankAt(tank);
        if (source == null) {
            return NO_SUCH;
        }
        if (!isIn(grams, 1, source.total)) {
            return NOT_SO_MANY;
        }
        if (batchCount >= batches.length) {
            return BATCHES_FULL;
        }
        Vessel batch = new Vessel(tank, dayNow);
        int heat = source.heat;
        draught.drawFrom(source, grams);
        draught.fillInto(batch, heat);
        batches[batchCount] = batch;
        batchCount++;
        return batchCount - 1;
    }

    public int spill(int tank, int grams) {
        Vessel source = tankAt(tank);
        if (source == null) {
            return NO_SUCH;
        }
        if (!isIn(grams, 1, source.total)) {
            return NOT_SO_MANY;
        }
        draught.drawFrom(source, grams);
        return source.total;
    }

    public int holds(int where, int n, int what) {
        Vessel it = vesselAt(where, n);
        if (it == null) {
            return NONE;
        }
        switch (what) {
            case 0: return it.total;
            case 1: return it.lotsInIt();
            case 2: return it.heat;
            case 3: return it.roomOrTank;
            case 4: return it.priceOrDay;
            default: return NONE;
        }
    }

    public int part(int where, int n, int lot) {
        Vessel it = vesselAt(where, n);
        if (it == null || lotAt(lot) == null) {
            return NONE;
        }
        return it.gramsOf(lot);
    }

    public int measure(int where, int n, int what) {
        Vessel it = vesselAt(where, n);
        if (it == null || !isMeasure(what)) {
            return NONE;
        }
        return told(it, what);
    }

    // ---- rules

    public int rule() {
        boolean isRule = reader.read();
        reader.tape.length = 0;
        if (!isRule) {
            return NONE;
        }
        if (ruleCount >= rules.length) {
            return RULES_FULL;
        }
        rules[ruleCount] = new Rule(reader.nameKey, reader.from, reader.codeRead());
        ruleCount++;
        return ruleCount - 1;
    }

    public int fault(int what) {
        switch (what) {
            case 0: return reader.faultKind;
            case 1: return reader.faultPlace;
            default: return NONE;
        }
    }

    public boolean shut(int rule, int day) {
        Rule it = ruleAt(rule);
        if (it == null || it.isShut || day < it.from) {
            return false;
        }
        it.isShut = true;
        it.shutDay = day;
        return true;
    }

    public int says(int rule, int where, int n) {
        Rule it = ruleAt(rule);
        Vessel held = vesselAt(where, n);
        if (it == null || held == null || held.total == 0) {
            return NONE;
        }
        return verdict(it, held);
    }

    public int name(int where, int n, int day) {
        Vessel held = vesselAt(where, n);
        if (held == null || held.total == 0) {
            return NONE;
        }
        for (int k = 0; k < rules.length; k++) {
            Rule it = rules[k];
            if (it != null && isInForce(it, k, day) && verdict(it, held) == SURE) {
                return k;
            }
        }
        return NONE;
    }

    // ---- pay, blends, tracing

    public boolean step(int k, int water, int price) {
        if (!isIn(k, 0, STEPS - 1) || !isIn(water, 0, MOST_WATER)
            || !isIn(price, 0, MOST_STEP_PRICE)) {
            return false;
        }
        stepsNow.waters[k] = water;
        stepsNow.prices[k] = price;
        return true;
    }

    public long paid(int keeper) {
        if (!isIn(keeper, 0, KEEPERS - 1)) {
            return NONE;
        }
        long sum = 0;
        for (int k = 0; k < lots.length; k++) {
            Lot it = lots[k];
            if (it != null && it.keeper == keeper) {
                sum += it.pay;
            }
        }
        return sum;
    }

    public int blend(int bits, int parts, int water, int least, int most) {
        boolean itCan = isIn(parts, 1, MOST_PARTS) && isIn(water, 0, MOST_WATER)
            && isIn(least, 0, MOST_COLOUR) && isIn(most, 0, MOST_COLOUR);
        if (!itCan || !areTanksToBlend(bits)) {
            return NO_SUCH;
        }
        blender.begin(parts, water, least, most);
        for (int k = 0; k < tanks.length; k++) {
            Vessel it = tanks[k];
            if (it != null && hasBit(bits, k)) {
                blender.addTank(k, it.total / WHOLE, told(it, WATER), told(it, COLOUR),
                    it.priceOrDay);
            }
        }
        return blender.leastPrice();
    }

    public int parts(int tank) {
        if (tankAt(tank) == null || !blender.hasTold) {
            return NONE;
        }
        return blender.toldParts[tank];
    }

    public int trace(int lot) {
        if (lotAt(lot) == null) {
            return NONE;
        }
        foundCount = 0;
        for (int k = 0; k < batches.length; k++) {
            Vessel it = batches[k];
            if (it != null && it.gramsOf(lot) > 0 && foundCount < foundBatches.length) {
                foundBatches[foundCount] = k;
                foundCount++;
            }
        }
        return foundCount;
    }

    public int found(int k) {
        return isIn(k, 0, foundCount - 1) ? foundBatches[k] : NONE;
    }

    public long whose(int keeper, int what) {
        if (!isIn(keeper, 0, KEEPERS - 1) || !isIn(what, 0, 3)) {
            return NONE;
        }
        long sum = 0;
        for (int k = 0; k < lots.length; k++) {
            Lot it = lots[k];
            if (it != null && it.keeper == keeper) {
                sum += whereabouts(it, k, what);
            }
        }
        return sum;
    }

    public int count(int what) {
        switch (what) {
            case 0: return lotCount;
            case 1: return batchCount;
            case 2: return ruleCount;
            case 3: return dayNow;
            default: return NONE;
        }
    }

    // ---- what the calls share

    private static boolean isIn(int n, int least, int most) {
        return n >= least && n <= most;
    }

    private Lot lotAt(int n) {
        return isIn(n, 0, lots.length - 1) ? lots[n] : null;
    }

    private Vessel tankAt(int n) {
        return isIn(n, 0, tanks.length - 1) ? tanks[n] : null;
    }

    private Vessel vesselAt(int where, int n) {
        if (where == 0) {
            return tankAt(n);
        }
        return where == 1 && isIn(n, 0, batches.length - 1) ? batches[n] : null;
    }

    private Rule ruleAt(int n) {
        return isIn(n, 0, rules.length - 1) ? rules[n] : null;
    }

    /** The sum of a row, as if it had another number at one place. */
    private static int sumWith(int[] row, int place, int instead) {
        int sum = 0;
        for (int k = 0; k < row.length; k++) {
            sum += k == place ? instead : row[k];
        }
        return sum;
    }

    private static boolean isPollenLow(int what) {
        return isIn(what, POLLEN_LOW, POLLEN_LOW + KINDS - 1);
    }

    private static boolean isPollenHigh(int what) {
        return isIn(what, POLLEN_HIGH, POLLEN_HIGH + KINDS - 1);
    }

    private static boolean isMeasure(int what) {
        return isIn(what, WATER, HEAT) || isPollenLow(what) || isPollenHigh(what)
            || isIn(what, LAND, LAND + LANDS - 1);
    }

    /** A measure times the grams, so that rules can compare it with nothing rounded off. */
    private long weighed(Vessel held, int what) {
        if (what == HEAT) {
            return (long) held.heat * held.total;
        }
        long sum = 0;
        for (int k = 0; k < lotCount && k < lots.length; k++) {
            Lot it = lots[k];
            if (it != null) {
                sum += (long) held.gramsOf(k) * it.perGram(what);
            }
        }
        return sum;
    }

    private int told(Vessel held, int what) {
        if (held.total <= 0) {
            return NONE;
        }
        if (what == HEAT) {
            return held.heat;
        }
        return (int) (10 * weighed(held, what) / held.total);
    }

    /**
     * Whether a rule is sure, possible alone, or neither. What is sure is possible too, so
     * three numbers do: "and" is the least of both, "or" the greatest, "not" turns around.
     */
    private int verdict(Rule rule, Vessel held) {
        int depth = 0;
        for (int k = 0; k < rule.code.length; k++) {
            int code = rule.code[k];
            if (code >= 0) {
                if (depth < verdicts.length) {
                    verdicts[depth] = verdictOfTest(code, held);
                    depth++;
                }
            } else if (code == CODE_NOT) {
                if (isIn(depth, 1, verdicts.length)) {
                    verdicts[depth - 1] = SURE - verdicts[depth - 1];
                }
            } else if (isIn(depth, 2, verdicts.length)) {
                depth--;
                int left = verdicts[depth - 1];
                int right = verdicts[depth];
                verdicts[depth - 1] = code == CODE_AND
                    ? Math.min(left, right) : Math.max(left, right);
            }
        }
        return depth > 0 ? verdicts[0] : NEITHER;
    }

    private int verdictOfTest(int code, Vessel held) {
        int what = code >> (NUMBER_BITS + 1);
        boolean isMax = ((code >> NUMBER_BITS) & 1) == 1;
        long bound = (long) (code & ((1 << NUMBER_BITS) - 1)) * held.total;
        long low = weighed(held, what);
        long high = isPollenLow(what) ? weighed(held, what - POLLEN_LOW + POLLEN_HIGH) : low;
        if (isMax ? high <= bound : low >= bound) {
            return SURE;
        }
        return (isMax ? low <= bound : high >= bound) ? POSSIBLE : NEITHER;
    }

    private boolean isInForce(Rule rule, int number, int day) {
        if (rule.from > day || (rule.isShut && rule.shutDay <= day)) {
            return false;
        }
        for (int k = 0; k < rules.length; k++) {
            Rule other = rules[k];
            if (other != null && other.nameKey == rule.nameKey && other.from <= day) {
                if (other.from > rule.from || (other.from == rule.from && k > number)) {
                    return false;
                }
            }
        }
        return true;
    }

    private static boolean hasBit(int bits, int k) {
        return ((bits >> k) & 1) == 1;
    }

    private boolean areTanksToBlend(int bits) {
        if ((bits >> TANKS) != 0 || !isIn(Integer.bitCount(bits), 1, BLEND_TANKS)) {
            return false;
        }
        for (int k = 0; k < tanks.length; k++) {
            if (hasBit(bits, k) && (tanks[k] == null || tanks[k].total == 0)) {
                return false;
            }
        }
        return true;
    }

    /** Grams of a lot that are left (0), in tanks (1), in batches (2), gone (3). */
    private int whereabouts(Lot lot, int number, int what) {
        if (what == 0) {
            return lot.left;
        }
        int inTanks = gramsIn(tanks, number);
        int inBatches = gramsIn(batches, number);
        if (what == 1) {
            return inTanks;
        }
        return what == 2 ? inBatches : lot.grams - lot.left - inTanks - inBatches;
    }

    private static int gramsIn(Vessel[] vessels, int lot) {
        int sum = 0;
        for (int k = 0; k < vessels.length; k++) {
            Vessel it = vessels[k];
            if (it != null) {
                sum += it.gramsOf(lot);
            }
        }
        return sum;
    }

    /** The steps of pay: water at most, and a price for 1000 grams. */
    private static final class Steps {
        final int[] waters = new int[STEPS];
        final int[] prices = new int[STEPS];

        void copyFrom(Steps other) {
            System.arraycopy(other.waters, 0, waters, 0, STEPS);
            System.arraycopy(other.prices, 0, prices, 0, STEPS);
        }

        int payFor(int grams, int water) {
            for (int k = 0; k < STEPS; k++) {
                if (water <= waters[k]) {
                    return (int) ((long) grams * prices[k] / WHOLE);
                }
            }
            return 0;
        }
    }

    /** A lot of a keeper. */
    private static final class Lot {
        final int keeper;
        final int grams;
        final int colour;
        final int land;
        final int[] low = new int[KINDS];
        final int[] high = new int[KINDS];
        // Its own copy: later steps are not to change what a later test pays.
        final Steps steps = new Steps();
        int water;
        int left;
        int pay;

        Lot(int keeper, int grams, int water, int colour, int land, Steps stepsNow) {
            this.keeper = keeper;
            this.grams = grams;
            this.water = water;
            this.colour = colour;
            this.land = land;
            Arrays.fill(high, WHOLE);
            steps.copyFrom(stepsNow);
            left = grams;
            pay = steps.payFor(grams, water);
        }

        /** What each gram of it adds to a measure (heat is none of a lot's own). */
        int perGram(int what) {
            if (what == WATER) {
                return water;
            }
            if (what == COLOUR) {
                return colour;
            }
            if (isPollenLow(what)) {
                return low[what - POLLEN_LOW];
            }
            if (isPollenHigh(what)) {
                return high[what - POLLEN_HIGH];
            }
            return what == LAND + land ? WHOLE : 0;
        }
    }

    /** A tank, or a batch of jars: grams of each lot, and their heat. */
    private static final class Vessel {
        final int[] grams = new int[MOST_LOTS];
        int total;
        int heat;
        // A tank's room; of a batch the tank that it was drawn from.
        int roomOrTank;
        // A tank's price; of a batch the day on which it was drawn.
        int priceOrDay;

        Vessel(int roomOrTank, int priceOrDay) {
            this.roomOrTank = roomOrTank;
            this.priceOrDay = priceOrDay;
        }

        /** For tanks alone: a batch has no room. */
        boolean hasRoomFor(int more) {
            return more <= roomOrTank - total;
        }

        int gramsOf(int lot) {
            return lot >= 0 && lot < grams.length ? grams[lot] : 0;
        }

        int lotsInIt() {
            int n = 0;
            for (int k = 0; k < grams.length; k++) {
                if (grams[k] > 0) {
                    n++;
                }
            }
            return n;
        }

        /** The heat is not touched: a lot's own is 0, and so is an empty tank's. */
        void addGrams(int lot, int more) {
            if (lot >= 0 && lot < grams.length) {
                grams[lot] += more;
                total += more;
            }
        }
    }

    /** Grams of each lot that are drawn at once from a tank. */
    private static final class Draught {
        private final int[] grams = new int[MOST_LOTS];
        private final long[] rests = new long[MOST_LOTS];

        /** Takes x grams out of a tank, and keeps them here for fillInto(). */
        void drawFrom(Vessel tank, int x) {
            shareOut(tank, x);
            for (int k = 0; k < grams.length; k++) {
                tank.addGrams(k, -grams[k]);
            }
            if (tank.total == 0) {
                tank.heat = 0;
            }
        }

        void fillInto(Vessel vessel, int heat) {
            vessel.heat = vessel.total == 0 ? heat : Math.max(vessel.heat, heat);
            for (int k = 0; k < grams.length; k++) {
                vessel.addGrams(k, grams[k]);
            }
        }

        private void shareOut(Vessel tank, int x) {
            Arrays.fill(grams, 0);
            if (tank.total <= 0) {
                return;
            }
            int lacking = x;
            for (int k = 0; k < grams.length; k++) {
                long share = (long) x * tank.gramsOf(k);
                grams[k] = (int) (share / tank.total);
                rests[k] = share % tank.total;
                lacking -= grams[k];
            }
            for (int k = 0; k < rests.length && k < lacking; k++) {
                int lot = greatestRest();
                grams[lot]++;
                // Below every rest, so that no lot makes up twice.
                rests[lot] = -1;
            }
        }

        private int greatestRest() {
            int best = 0;
            for (int k = 1; k < rests.length; k++) {
                if (rests[k] > rests[best]) {
                    best = k;
                }
            }
            return best;
        }
    }

    /** Seeks the cheapest blend, and keeps the latest one that was found. */
    private static final class Blender {
        final int[] toldParts = new int[TANKS];
        boolean hasTold;
        // Of the places that no tank takes there are no parts, whatever else stands there.
        private final int[] tankNumbers = new int[BLEND_TANKS];
        private final int[] mostParts = new int[BLEND_TANKS];
        private final int[] waters = new int[BLEND_TANKS];
        private final int[] colours = new int[BLEND_TANKS];
        private final int[] prices = new int[BLEND_TANKS];
        private final int[] best = new int[BLEND_TANKS];
        private int tankCount;
        private int bestPrice;
        private int partsInAll;
        private int mostWater;
        private int leastColour;
        private int mostColour;

        void begin(int partsAsked, int water, int least, int most) {
            tankCount = 0;
            Arrays.fill(mostParts, 0);
            partsInAll = partsAsked;
            mostWater = partsAsked * 10 * water;
            leastColour = partsAsked * 10 * least;
            mostColour = partsAsked * 10 * most;
        }

        void addTank(int number, int partsInIt, int water, int colour, int price) {
            if (tankCount >= BLEND_TANKS) {
                return;
            }
            tankNumbers[tankCount] = number;
            mostParts[tankCount] = partsInIt;
            waters[tankCount] = water;
            colours[tankCount] = colour;
            prices[tankCount] = price;
            tankCount++;
        }

        int leastPrice() {
            bestPrice = NO_BLEND;
            // Fewer parts of the first tanks come first, so the first of like prices is the one.
            for (int a = 0; a <= Math.min(mostParts[0], partsInAll); a++) {
                for (int b = 0; b <= Math.min(mostParts[1], partsInAll - a); b++) {
                    tryWith(a, b);
                }
            }
            if (bestPrice != NO_BLEND) {
                keepBest();
            }
            return bestPrice;
        }

        /** Tries all parts of the third and fourth place with these of the first and second. */
        private void tryWith(int a, int b) {
            int rest = partsInAll - a - b;
            int price = a * prices[0] + b * prices[1];
            int water = a * waters[0] + b * waters[1];
            int colour = a * colours[0] + b * colours[1];
            for (int c = Math.max(0, rest - mostParts[3]); c <= Math.min(mostParts[2], rest); c++) {
                int d = rest - c;
                int itsPrice = price + c * prices[2] + d * prices[3];
                if ((bestPrice == NO_BLEND || itsPrice < bestPrice)
                    && isWithin(water + c * waters[2] + d * waters[3],
                        colour + c * colours[2] + d * colours[3])) {
                    bestPrice = itsPrice;
                    best[0] = a;
                    best[1] = b;
                    best[2] = c;
                    best[3] = d;
                }
            }
        }

        private boolean isWithin(int water, int colour) {
            return water <= mostWater && colour >= leastColour && colour <= mostColour;
        }

        private void keepBest() {
            Arrays.fill(toldParts, 0);
            for (int k = 0; k < tankCount && k < BLEND_TANKS; k++) {
                int number = tankNumbers[k];
                if (number >= 0 && number < toldParts.length) {
                    toldParts[number] = best[k];
                }
            }
            hasTold = true;
        }
    }

    /** A rule as it was read: its code stands in the order in which it is worked out. */
    private static final class Rule {
        final long nameKey;
        final int from;
        final int[] code;
        boolean isShut;
        int shutDay;

        Rule(long nameKey, int from, int[] code) {
            this.nameKey = nameKey;
            this.from = from;
            this.code = code;
        }
    }

    /** The bytes that were fed, cut into words, numbers and other bytes. */
    private static final class Tape {
        static final int END = 0;
        static final int WORD = 1;
        static final int NUMBER = 2;
        static final int BLANK = 3;
        static final int OTHER = 4;

        int length;
        // The piece at hand: its kind, its first byte, the byte behind it.
        int kind;
        int start;
        int end;
        private final int[] bytes = new int[MOST_BYTES];

        void append(int four) {
            for (int shift = 24; shift >= 0; shift -= 8) {
                if (length >= 0 && length < bytes.length) {
                    bytes[length] = (four >> shift) & 255;
                    length++;
                }
            }
        }

        void rewind() {
            end = 0;
            advance();
        }

        void advance() {
            int at = end;
            while (at < length && kindOf(byteAt(at)) == BLANK) {
                at++;
            }
            start = at;
            kind = kindOf(byteAt(at));
            end = kind == END ? at : at + 1;
            boolean isRun = kind == WORD || kind == NUMBER;
            while (isRun && end < length && kindOf(byteAt(end)) == kind) {
                end++;
            }
        }

        boolean isByte(char which) {
            return kind == OTHER && byteAt(start) == which;
        }

        boolean isWord(String word) {
            if (kind != WORD || end - start != word.length()) {
                return false;
            }
            for (int k = 0; k < word.length(); k++) {
                if (byteAt(start + k) != word.charAt(k)) {
                    return false;
                }
            }
            return true;
        }

        /** The word's letters, five bits each: twelve of them fit in a long. */
        long wordKey() {
            long key = 0;
            for (int k = start; k < end; k++) {
                key = (key << 5) + byteAt(k) - 'a' + 1;
            }
            return key;
        }

        /** The number's value; five digits fit in an int. */
        int numberValue() {
            int value = 0;
            for (int k = start; k < end; k++) {
                value = value * 10 + byteAt(k) - '0';
            }
            return value;
        }

        private int byteAt(int at) {
            return at >= 0 && at < length && at < bytes.length ? bytes[at] : NONE;
        }

        private static int kindOf(int b) {
            if (b >= 'a' && b <= 'z') {
                return WORD;
            }
            if (b >= '0' && b <= '9') {
                return NUMBER;
            }
            if (b == 10 || b == 32) {
                return BLANK;
            }
            return b == NONE ? END : OTHER;
        }
    }

    /** Reads the tape as a rule's text, up to its first fault. */
    private static final class RuleReader {
        private static final int FAULT_TEXT = 1;
        private static final int FAULT_NUMBER = 2;
        private static final int FAULT_OPEN = 3;
        // Each code stands for two bytes at least (the shortest word is "or").
        private static final int MOST_CODES = MOST_BYTES / 2;

        final Tape tape = new Tape();
        long nameKey;
        int from;
        int faultKind;
        int faultPlace = NONE;
        private final int[] codes = new int[MOST_CODES];
        private int codeCount;
        private int value;

        boolean read() {
            faultKind = 0;
            faultPlace = NONE;
            codeCount = 0;
            tape.rewind();
            if (!readName() || !readByte(':') || !readEither(0)) {
                return false;
            }
            if (!readWord("from") || !readNumber(LAST_DAY)) {
                return false;
            }
            from = value;
            return readByte(';') && (tape.kind == Tape.END || failHere());
        }

        int[] codeRead() {
            return Arrays.copyOf(codes, codeCount);
        }

        private boolean failAt(int kind, int place) {
            faultKind = kind;
            faultPlace = place;
            return false;
        }

        /** No rule goes on with the piece at hand. */
        private boolean failHere() {
            return failAt(FAULT_TEXT, tape.start);
        }

        private boolean readName() {
            if (tape.kind != Tape.WORD || isKeptWord()) {
                return failHere();
            }
            if (tape.end - tape.start > NAME_LETTERS) {
                return failAt(FAULT_TEXT, tape.start + NAME_LETTERS);
            }
            nameKey = tape.wordKey();
            tape.advance();
            return true;
        }

        private boolean isKeptWord() {
            return tape.isWord("or") || tape.isWord("and") || tape.isWord("not")
                || tape.isWord("min") || tape.isWord("max") || tape.isWord("from")
                || measureNamed() != NONE;
        }

        private boolean readByte(char which) {
            if (!tape.isByte(which)) {
                return failHere();
            }
            tape.advance();
            return true;
        }

        private boolean readWord(String word) {
            if (!tape.isWord(word)) {
                return failHere();
            }
            tape.advance();
            return true;
        }

        private boolean readNumber(int most) {
            if (tape.kind != Tape.NUMBER) {
                return failHere();
            }
            if (tape.end - tape.start > NUMBER_DIGITS) {
                return failAt(FAULT_TEXT, tape.start + NUMBER_DIGITS);
            }
            value = tape.numberValue();
            if (value > most) {
                return failAt(FAULT_NUMBER, tape.start);
            }
            tape.advance();
            return true;
        }

        /** open: how many brackets and nots are open around it. */
        private boolean readEither(int open) {
            boolean isRead = readOne(open);
            boolean orWaits = false;
            for (int k = 0; k < MOST_BYTES && isRead && isAndOr(); k++) {
                boolean isAnd = tape.isWord("and");
                // An "or" is worked out behind the ands at its right side: they bind closer.
                if (!isAnd && orWaits) {
                    addCode(CODE_OR);
                }
                orWaits = orWaits || !isAnd;
                tape.advance();
                isRead = readOne(open);
                if (isAnd) {
                    addCode(CODE_AND);
                }
            }
            if (orWaits) {
                addCode(CODE_OR);
            }
            return isRead;
        }

        private boolean isAndOr() {
            return tape.isWord("and") || tape.isWord("or");
        }

        private boolean readOne(int open) {
            boolean isNot = tape.isWord("not");
            if (!isNot && !tape.isByte('(')) {
                return readTest();
            }
            if (open >= MOST_OPEN) {
                return failAt(FAULT_OPEN, tape.start);
            }
            tape.advance();
            if (!isNot) {
                return readEither(open + 1) && readByte(')');
            }
            boolean isRead = readOne(open + 1);
            addCode(CODE_NOT);
            return isRead;
        }

        private boolean readTest() {
            int what = measureNamed();
            if (what == NONE) {
                return failHere();
            }
            tape.advance();
            if (what == POLLEN_LOW || what == LAND) {
                if (!readNumber(what == LAND ? LANDS - 1 : KINDS - 1)) {
                    return false;
                }
                what += value;
            }
            boolean isMax = tape.isWord("max");
            if (!isMax && !tape.isWord("min")) {
                return failHere();
            }
            tape.advance();
            if (!readNumber(WHOLE)) {
                return false;
            }
            addCode(testCode(what, isMax, value));
            return true;
        }

        /** The measure whose word is at hand; of pollen and land the first one. */
        private int measureNamed() {
            if (tape.isWord("water")) {
                return WATER;
            }
            if (tape.isWord("colour")) {
                return COLOUR;
            }
            if (tape.isWord("heat")) {
                return HEAT;
            }
            if (tape.isWord("pollen")) {
                return POLLEN_LOW;
            }
            return tape.isWord("land") ? LAND : NONE;
        }

        private static int testCode(int what, boolean isMax, int number) {
            return ((what * 2 + (isMax ? 1 : 0)) << NUMBER_BITS) + number;
        }

        private void addCode(int code) {
            if (codeCount >= 0 && codeCount < codes.length) {
                codes[codeCount] = code;
                codeCount++;
            }
        }
    }
}
