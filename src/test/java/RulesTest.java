/** Promises 21 to 23: what rules say, which are in force, which are shut. */
public final class RulesTest {
    public static void main(String[] args) {
        tests();
        pollen();
        words();
        saysOfWhat();
        shuts();
        inForce();
        shutsAndForce();
        Check.finish();
    }

    /** 2 grams of water 150, colour 10, land 0 and 1 gram of water 200, colour 21, land 2. */
    private static HoneyHouse mixed() {
        HoneyHouse x = new HoneyHouse();
        x.lot(0, 2, 150, 10, 0);
        x.lot(0, 10, 200, 21, 2);
        x.tank(0, 100, 0);
        x.pour(0, 0, 2);
        x.pour(1, 0, 1);
        return x;
    }

    private static void verdict(HoneyHouse house, String either, int due) {
        HoneyHouse x = house;
        int number = Check.tell(x, "a:" + either + " from 0;");
        Check.due(either + " is a rule", true, number >= 0);
        Check.due(either, due, x.says(number, 0, 0));
    }

    private static void tests() {
        // Water 500/3 = 166.67, colour 41/3 = 13.67, land 0 666.67, land 2 333.33.
        String[] sure = {"water min 0", "water min 166", "water max 167", "colour min 13", "colour max 14",
            "heat min 0", "heat max 0", "land 0 min 666", "land 0 max 667", "land 2 min 333",
            "land 2 max 334", "land 1 max 0", "land 1 min 0"};
        String[] neither = {"water max 0", "water min 167", "water max 166", "colour min 14", "colour max 13",
            "heat min 1", "land 0 min 667", "land 0 max 666", "land 2 min 334", "land 1 min 1"};
        for (String text : sure) {
            verdict(mixed(), text, 2);
        }
        for (String text : neither) {
            verdict(mixed(), text, 0);
        }
        HoneyHouse x = mixed();
        x.warm(0, 7);
        verdict(x, "heat min 7", 2);
        verdict(x, "heat max 7", 2);
        verdict(x, "heat min 8", 0);
        verdict(x, "heat max 6", 0);
    }

    private static void pollen() {
        HoneyHouse x = mixed();
        x.pollen(0, 3, 100, 200);
        x.pollen(1, 3, 301, 601);
        // Low 501/3 = 167, high 1001/3 = 333.67.
        verdict(x, "pollen 3 min 167", 2);
        verdict(x, "pollen 3 min 168", 1);
        verdict(x, "pollen 3 min 333", 1);
        verdict(x, "pollen 3 min 334", 0);
        verdict(x, "pollen 3 max 334", 2);
        verdict(x, "pollen 3 max 333", 1);
        verdict(x, "pollen 3 max 167", 1);
        verdict(x, "pollen 3 max 166", 0);
        verdict(x, "pollen 4 min 0", 2);
        verdict(x, "pollen 4 max 1000", 2);
        verdict(x, "pollen 4 min 1000", 1);
        verdict(x, "pollen 4 max 0", 1);
    }

    private static void words() {
        String no = "heat min 1";
        String may = "pollen 0 min 5";
        String yes = "heat max 1";
        String[] ones = {no, may, yes};
        for (int a = 0; a < 3; a++) {
            verdict(mixed(), "not " + ones[a], 2 - a);
            verdict(mixed(), "not not " + ones[a], a);
            for (int b = 0; b < 3; b++) {
                verdict(mixed(), ones[a] + " and " + ones[b], Math.min(a, b));
                verdict(mixed(), ones[a] + " or " + ones[b], Math.max(a, b));
            }
        }
        verdict(mixed(), yes + " or " + no + " and " + no, 2);
        verdict(mixed(), no + " and " + no + " or " + yes, 2);
        verdict(mixed(), yes + " or " + no + " or " + no, 2);
        verdict(mixed(), no + " or " + no + " or " + yes, 2);
        verdict(mixed(), no + " or " + yes + " or " + no + " and " + yes, 2);
        verdict(mixed(), yes + " and(" + no + " or " + no + " or " + no + ")", 0);
        verdict(mixed(), no + " or " + no + " and(" + yes + ")or " + no, 0);
        verdict(mixed(), "(" + yes + " or " + no + ")and " + no, 0);
        verdict(mixed(), "not " + yes + " or " + yes, 2);
        verdict(mixed(), "not(" + yes + " or " + yes + ")", 0);
        verdict(mixed(), "not " + no + " and " + no, 0);
        verdict(mixed(), may + " or not " + may, 1);
        verdict(mixed(), "heat min 0and(heat min 1or(heat min 0and(heat min 1or(heat min 0and"
            + "(heat min 1or(heat min 0and heat max 0))))))", 2);
    }

    private static void saysOfWhat() {
        HoneyHouse x = mixed();
        Check.due("no rule", -1, x.says(0, 0, 0));
        Check.tell(x, "a:pollen 0 min 1 from 500;");
        Check.due("not in force", 1, x.says(0, 0, 0));
        Check.due("rule -1", -1, x.says(-1, 0, 0));
        Check.due("rule 1", -1, x.says(1, 0, 0));
        Check.due("rule 16", -1, x.says(16, 0, 0));
        Check.due("empty tank", -1, x.says(0, 0, 1));
        Check.due("tank 10", -1, x.says(0, 0, 10));
        Check.due("tank -1", -1, x.says(0, 0, -1));
        Check.due("batch 0", -1, x.says(0, 1, 0));
        Check.due("where 2", -1, x.says(0, 2, 0));
        x.jar(0, 3);
        Check.due("batch", 1, x.says(0, 1, 0));
        Check.due("emptied", -1, x.says(0, 0, 0));
        x.shut(0, 600);
        Check.due("shut", 1, x.says(0, 1, 0));
    }

    private static void shuts() {
        HoneyHouse x = mixed();
        Check.due("none", false, x.shut(0, 10));
        Check.tell(x, "a:heat max 1 from 5;");
        Check.due("rule -1", false, x.shut(-1, 10));
        Check.due("rule 1", false, x.shut(1, 10));
        Check.due("rule 16", false, x.shut(16, 10));
        Check.due("before its from", false, x.shut(0, 4));
        Check.due("on its from", true, x.shut(0, 5));
        Check.due("again", false, x.shut(0, 9));
        Check.due("never in force", -1, x.name(0, 0, 5));
    }

    private static void inForce() {
        HoneyHouse x = mixed();
        Check.due("no rules", -1, x.name(0, 0, 0));
        Check.tell(x, "a:heat max 1 from 10;");
        Check.tell(x, "b:heat max 1 from 0;");
        Check.tell(x, "a:heat max 1 from 20;");
        Check.tell(x, "a:heat min 1 from 30;");
        Check.tell(x, "a:heat max 1 from 15;");
        Check.tell(x, "b:heat min 1 from 40;");
        Check.tell(x, "b:heat max 1 from 40;");
        Check.tell(x, "c:pollen 0 min 1 from 0;");
        int[][] due = {{-1, -1}, {0, 1}, {9, 1}, {10, 0}, {14, 0}, {15, 1}, {20, 1}, {30, 1},
            {39, 1}, {40, 6}, {30000, 6}};
        for (int[] d : due) {
            Check.due("name on " + d[0], d[1], x.name(0, 0, d[0]));
        }
        Check.due("empty tank", -1, x.name(0, 1, 10));
        Check.due("tank 10", -1, x.name(0, 10, 10));
        Check.due("batch 0", -1, x.name(1, 0, 10));
        Check.due("where 2", -1, x.name(2, 0, 10));
        x.jar(0, 1);
        Check.due("batch", 0, x.name(1, 0, 10));
        namesOfLikeLetters();
        latestFromNotLatestTold();
    }

    private static void latestFromNotLatestTold() {
        HoneyHouse x = mixed();
        Check.tell(x, "a:heat max 1 from 20;");
        Check.tell(x, "a:heat max 1 from 10;");
        Check.tell(x, "a:heat max 1 from 10;");
        Check.due("before all", -1, x.name(0, 0, 9));
        Check.due("told last of like ones", 2, x.name(0, 0, 10));
        Check.due("told first, from latest", 0, x.name(0, 0, 20));
        Check.tell(x, "a:heat min 1 from 20;");
        Check.due("the one told last says no", -1, x.name(0, 0, 20));
        HoneyHouse y = mixed();
        Check.tell(y, "a:heat min 1 from 20;");
        Check.tell(y, "a:heat max 1 from 10;");
        Check.due("the first one not yet", 1, y.name(0, 0, 19));
        Check.due("the first one says no", -1, y.name(0, 0, 20));
    }

    private static void namesOfLikeLetters() {
        HoneyHouse x = mixed();
        Check.tell(x, "abcdefghijkl:heat max 1 from 0;");
        Check.tell(x, "abcdefghijkm:heat max 1 from 0;");
        Check.tell(x, "bbcdefghijkl:heat max 1 from 0;");
        Check.tell(x, "a:heat max 1 from 0;");
        Check.tell(x, "aa:heat max 1 from 0;");
        Check.due("all are in force", 0, x.name(0, 0, 0));
        for (int k = 0; k < 5; k++) {
            x.shut(k, 1);
            Check.due("shut up to " + k, k < 4 ? k + 1 : -1, x.name(0, 0, 1));
        }
    }

    private static void shutsAndForce() {
        HoneyHouse x = mixed();
        Check.tell(x, "a:heat max 1 from 0;");
        Check.tell(x, "a:heat max 1 from 10;");
        Check.due("shut", true, x.shut(1, 20));
        Check.due("ahead", 0, x.name(0, 0, 9));
        Check.due("in force", 1, x.name(0, 0, 19));
        Check.due("on the day", -1, x.name(0, 0, 20));
        Check.due("later", -1, x.name(0, 0, 9999));
        Check.tell(x, "a:heat max 1 from 25;");
        Check.due("between", -1, x.name(0, 0, 24));
        Check.due("the next one", 2, x.name(0, 0, 25));
        // One that another has taken the place of may be shut too.
        Check.due("shut an older one", true, x.shut(0, 5));
        Check.due("shut by then", -1, x.name(0, 0, 5));
        Check.due("before", 0, x.name(0, 0, 4));
    }
}
