/** Promises 21 to 23, with term III: what rules say, which are in force, which are shut. */
public final class RulesTest {
    private static final String NO = "heat min 1";
    private static final String MAY = "pollen 0 min 5";
    private static final String YES = "heat max 1";

    public static void main(String[] args) {
        shutEdges();
        shutNoRule();
        shutBeforeItsFrom();
        shutTwice();
        shutRefusedDoesNothing();

        saysAtTheMeasureItself();
        saysWithNothingRoundedOff();
        saysOfHeat();
        saysOfLand();
        saysOfPollen();
        saysOfPollenAtFirst();
        notAndOr();
        andBindsCloser();
        bracketsAndNots();
        longTexts();
        saysOfRulesNotInForce();
        saysOfNothing();
        saysOfOthers();
        saysByLaterTests();

        nameIsFromItsDayOn();
        nameOfTheLatestFrom();
        nameOfTheOneToldLast();
        nameOfTheLeastNumber();
        nameIsSure();
        nameShutByThen();
        nameShutLeavesNoneOfItsName();
        nameAfterOneThatIsShut();
        namesAreApart();
        namesAreAlikeWhateverTheBlanks();
        nameOfOthers();
        Check.finish();
    }

    /** 2 grams of water 150, colour 10, land 0 and 1 gram of water 200, colour 21, land 2. */
    private static HoneyHouse mixed() {
        HoneyHouse x = new HoneyHouse();
        x.lot(0, 2, 150, 10, 0);
        x.lot(0, 10, 200, 21, 2);
        x.tank(0, 100, 0);
        x.pour(0, 0, 2);
        x.pour(1, 0, 1);
        return x;
    }

    private static HoneyHouse withRule(int from) {
        HoneyHouse x = mixed();
        Check.tell(x, "a:heat max 1 from " + from + ";");
        return x;
    }

    private static void verdict(HoneyHouse x, String either, int due) {
        int number = Check.tell(x, "a:" + either + " from 0;");
        Check.due(either + " is a rule", true, number >= 0);
        Check.due(either, due, x.says(number, 0, 0));
    }

    private static void sure(String either) {
        verdict(mixed(), either, 2);
    }

    private static void neither(String either) {
        verdict(mixed(), either, 0);
    }

    // ---- Promise 21

    private static void shutEdges() {
        Check.range("shut rule", 0, 0, n -> withRule(5).shut(n, 5));
        Check.due("from 0, on day 0", true, withRule(0).shut(0, 0));
        Check.due("from 0, on day -1", false, withRule(0).shut(0, -1));
        Check.due("from 0, on the least day", false, withRule(0).shut(0, Integer.MIN_VALUE));
        Check.due("from 30000, on day 30000", true, withRule(30000).shut(0, 30000));
        Check.due("from 30000, on day 29999", false, withRule(30000).shut(0, 29999));
    }

    private static void shutNoRule() {
        Check.due("no rules", false, mixed().shut(0, 10));
        Check.due("rule 1 of 1", false, withRule(5).shut(1, 10));
        Check.due("rule -1", false, withRule(5).shut(-1, 10));
        Check.due("rule 16", false, withRule(5).shut(16, 10));
    }

    private static void shutBeforeItsFrom() {
        HoneyHouse x = withRule(5);
        Check.due("day 4", false, x.shut(0, 4));
        Check.due("day 5", true, x.shut(0, 5));
        Check.due("it was never in force", -1, x.name(0, 0, 5));
        Check.due("nor ahead of it", -1, x.name(0, 0, 4));
    }

    private static void shutTwice() {
        HoneyHouse x = withRule(5);
        Check.due("once", true, x.shut(0, 9));
        Check.due("once more", false, x.shut(0, 9));
        Check.due("later", false, x.shut(0, 12));
        Check.due("sooner", false, x.shut(0, 7));
        Check.due("in force on 8", 0, x.name(0, 0, 8));
        Check.due("shut on 9", -1, x.name(0, 0, 9));
    }

    private static void shutRefusedDoesNothing() {
        HoneyHouse x = withRule(5);
        x.shut(0, 4);
        x.shut(1, 6);
        x.shut(-1, 6);
        Check.due("in force on 5", 0, x.name(0, 0, 5));
        Check.due("in force on 30000", 0, x.name(0, 0, 30000));
        Check.due("it can still be shut", true, x.shut(0, 6));
    }

    // ---- Promise 22

    /** What a rule says of one gram of water 150, colour 40, land 3 and heat 7. */
    private static void ofOneGram(String either, int due) {
        HoneyHouse x = new HoneyHouse();
        x.lot(0, 1, 150, 40, 3);
        x.tank(0, 1, 0);
        x.pour(0, 0, 1);
        x.warm(0, 7);
        verdict(x, either, due);
    }

    private static void saysAtTheMeasureItself() {
        String[] measures = {"water", "colour", "heat", "land 3", "land 0"};
        int[] are = {150, 40, 7, 1000, 0};
        for (int k = 0; k < measures.length; k++) {
            ofOneGram(measures[k] + " min " + are[k], 2);
            ofOneGram(measures[k] + " max " + are[k], 2);
            if (are[k] < 1000) {
                ofOneGram(measures[k] + " min " + (are[k] + 1), 0);
                ofOneGram(measures[k] + " max " + (are[k] + 1), 2);
            }
            if (are[k] > 0) {
                ofOneGram(measures[k] + " max " + (are[k] - 1), 0);
                ofOneGram(measures[k] + " min " + (are[k] - 1), 2);
            }
        }
    }

    private static void saysWithNothingRoundedOff() {
        // Water 500/3 = 166.67, colour 41/3 = 13.67.
        sure("water min 0");
        sure("water min 166");
        neither("water min 167");
        neither("water max 166");
        sure("water max 167");
        neither("water max 0");
        sure("water max 1000");
        neither("water min 1000");
        sure("colour min 13");
        neither("colour min 14");
        neither("colour max 13");
        sure("colour max 14");
        // 150 and 50 and one in 2000 more: told as 1500 and 500, but above 150 and 50.
        HoneyHouse x = new HoneyHouse();
        x.lot(0, 1999, 150, 50, 0);
        x.lot(0, 1, 151, 51, 1);
        x.tank(0, 2000, 0);
        x.pour(0, 0, 1999);
        x.pour(1, 0, 1);
        verdict(x, "water max 150", 0);
        verdict(x, "water min 150", 2);
        verdict(x, "colour max 50", 0);
        verdict(x, "land 0 min 1000", 0);
        verdict(x, "land 0 min 999", 2);
        verdict(x, "land 1 max 0", 0);
        verdict(x, "land 1 min 1", 0);
        verdict(x, "land 1 max 1", 2);
    }

    private static void saysOfHeat() {
        sure("heat min 0");
        sure("heat max 0");
        neither("heat min 1");
        HoneyHouse x = mixed();
        x.warm(0, 7);
        verdict(x, "heat min 7", 2);
        verdict(x, "heat max 7", 2);
        verdict(x, "heat min 8", 0);
        verdict(x, "heat max 6", 0);
        x.warm(0, 994);
        verdict(x, "heat max 1000", 0);
        verdict(x, "heat min 1000", 2);
    }

    private static void saysOfLand() {
        // Land 0 666.67, land 2 333.33.
        sure("land 0 min 666");
        neither("land 0 min 667");
        neither("land 0 max 666");
        sure("land 0 max 667");
        sure("land 2 min 333");
        neither("land 2 min 334");
        neither("land 2 max 333");
        sure("land 2 max 334");
        sure("land 1 max 0");
        sure("land 1 min 0");
        neither("land 1 min 1");
        sure("land 3 max 0");
    }

    private static void saysOfPollen() {
        HoneyHouse x = mixed();
        x.pollen(0, 3, 100, 200);
        x.pollen(1, 3, 301, 601);
        // Low 501/3 = 167, high 1001/3 = 333.67.
        verdict(x, "pollen 3 min 166", 2);
        verdict(x, "pollen 3 min 167", 2);
        verdict(x, "pollen 3 min 168", 1);
        verdict(x, "pollen 3 min 333", 1);
        verdict(x, "pollen 3 min 334", 0);
        verdict(x, "pollen 3 max 334", 2);
        verdict(x, "pollen 3 max 333", 1);
        verdict(x, "pollen 3 max 167", 1);
        verdict(x, "pollen 3 max 166", 0);
        x.pollen(1, 3, 300, 602);
        // Low 500/3 = 166.67, high 1002/3 = 334.
        verdict(x, "pollen 3 min 167", 1);
        verdict(x, "pollen 3 max 166", 0);
        verdict(x, "pollen 3 max 334", 2);
        verdict(x, "pollen 3 min 334", 1);
    }

    private static void saysOfPollenAtFirst() {
        for (int kind = 0; kind <= 4; kind++) {
            HoneyHouse x = mixed();
            verdict(x, "pollen " + kind + " min 0", 2);
            verdict(x, "pollen " + kind + " max 1000", 2);
            verdict(x, "pollen " + kind + " min 1", 1);
            verdict(x, "pollen " + kind + " min 1000", 1);
            verdict(x, "pollen " + kind + " max 0", 1);
            verdict(x, "pollen " + kind + " max 999", 1);
        }
    }

    private static void notAndOr() {
        String[] ones = {NO, MAY, YES};
        for (int a = 0; a < 3; a++) {
            verdict(mixed(), ones[a], a);
            verdict(mixed(), "not " + ones[a], 2 - a);
            verdict(mixed(), "not not " + ones[a], a);
            for (int b = 0; b < 3; b++) {
                verdict(mixed(), ones[a] + " and " + ones[b], Math.min(a, b));
                verdict(mixed(), ones[a] + " or " + ones[b], Math.max(a, b));
                verdict(mixed(), "not(" + ones[a] + " and " + ones[b] + ")", 2 - Math.min(a, b));
                verdict(mixed(), "not(" + ones[a] + " or " + ones[b] + ")", 2 - Math.max(a, b));
            }
        }
        // Each side alone is told, not that one of both must be.
        verdict(mixed(), MAY + " or not " + MAY, 1);
        verdict(mixed(), MAY + " and not " + MAY, 1);
    }

    private static void andBindsCloser() {
        sure(YES + " or " + NO + " and " + NO);
        sure(NO + " and " + NO + " or " + YES);
        sure(NO + " or " + YES + " or " + NO + " and " + YES);
        neither("(" + YES + " or " + NO + ")and " + NO);
        neither(NO + " and(" + NO + " or " + YES + ")");
        neither(NO + " or " + NO + " and(" + YES + ")or " + NO);
        sure(YES + " or " + NO + " or " + NO);
        sure(NO + " or " + NO + " or " + YES);
        neither(YES + " and " + YES + " and " + NO);
        neither(NO + " and " + YES + " and " + YES);
    }

    private static void bracketsAndNots() {
        neither(YES + " and(" + NO + " or " + NO + " or " + NO + ")");
        sure("not " + YES + " or " + YES);
        neither("not(" + YES + " or " + YES + ")");
        neither("not " + NO + " and " + NO);
        sure("not(" + NO + " and " + NO + ")");
        neither("not not not " + YES);
        sure("not not not not not not " + YES);
        sure("not(not(not(" + NO + ")))");
        sure("((((((" + YES + "))))))");
    }

    private static void longTexts() {
        sure("heat min 0and(heat min 1or(heat min 0and(heat min 1or(heat min 0and"
            + "(heat min 1or(heat min 0and heat max 0))))))");
        // In each of six brackets an or and an and wait for their right sides: no text has more.
        String waiting = "heat min 1or heat min 0and(".repeat(6);
        sure(waiting + "heat min 1or heat min 0and heat max 0" + ")".repeat(6));
        neither(waiting + "heat min 1or heat min 0and heat min 1" + ")".repeat(6));
        StringBuilder ors = new StringBuilder("heat min 1");
        for (int k = 0; k < 29; k++) {
            ors.append("or heat min 1");
        }
        neither(ors.toString());
        sure(ors.substring(0, ors.length() - 1) + "0");
        StringBuilder ands = new StringBuilder("heat max 1");
        for (int k = 0; k < 26; k++) {
            ands.append("and heat max 1");
        }
        sure(ands.toString());
        neither(ands + "and heat min 1");
    }

    private static void saysOfRulesNotInForce() {
        HoneyHouse x = mixed();
        Check.tell(x, "a:pollen 0 min 1 from 500;");
        Check.due("not in force yet", 1, x.says(0, 0, 0));
        x.shut(0, 500);
        Check.due("shut", 1, x.says(0, 0, 0));
        Check.tell(x, "a:heat max 1 from 500;");
        Check.due("another one is in its place", 1, x.says(0, 0, 0));
    }

    private static void saysOfNothing() {
        HoneyHouse x = withRule(0);
        Check.due("never filled", -1, x.says(0, 0, 1));
        x.jar(0, 3);
        Check.due("emptied", -1, x.says(0, 0, 0));
        Check.due("the batch", 2, x.says(0, 1, 0));
        x.pour(1, 0, 1);
        Check.due("one gram", 2, x.says(0, 0, 0));
    }

    private static void saysOfOthers() {
        Check.range("says rule", 0, 0, n -> withRule(0).says(n, 0, 0) == 2);
        Check.range("says where", 0, 1, n -> {
            HoneyHouse x = withRule(0);
            x.jar(0, 1);
            return x.says(0, n, 0) == 2;
        });
        Check.range("says tank", 0, 0, n -> withRule(0).says(0, 0, n) == 2);
        Check.range("says batch", 0, 0, n -> {
            HoneyHouse x = withRule(0);
            x.jar(0, 1);
            return x.says(0, 1, n) == 2;
        });
        Check.due("no rules", -1, mixed().says(0, 0, 0));
        Check.due("rule 1 of 1", -1, withRule(0).says(1, 0, 0));
        Check.due("rule -1", -1, withRule(0).says(-1, 0, 0));
        Check.due("rule 16", -1, withRule(0).says(16, 0, 0));
        Check.due("tank 10", -1, withRule(0).says(0, 0, 10));
        Check.due("tank -1", -1, withRule(0).says(0, 0, -1));
        Check.due("batch 0 of none", -1, withRule(0).says(0, 1, 0));
        Check.due("where 2", -1, withRule(0).says(0, 2, 0));
        Check.due("where -1", -1, withRule(0).says(0, -1, 0));
    }

    private static void saysByLaterTests() {
        HoneyHouse x = mixed();
        Check.tell(x, "a:water max 150 from 0;");
        Check.tell(x, "b:pollen 1 min 400 from 0;");
        Check.due("water", 0, x.says(0, 0, 0));
        x.test(1, 150);
        Check.due("water, tested", 2, x.says(0, 0, 0));
        Check.due("pollen", 1, x.says(1, 0, 0));
        x.pollen(0, 1, 400, 1000);
        Check.due("pollen of one lot", 1, x.says(1, 0, 0));
        x.pollen(1, 1, 400, 1000);
        Check.due("pollen of both", 2, x.says(1, 0, 0));
    }

    // ---- Promise 23

    private static void names(HoneyHouse x, int[][] daysAndDue) {
        for (int[] d : daysAndDue) {
            Check.due("name on " + d[0], d[1], x.name(0, 0, d[0]));
        }
    }

    private static void nameIsFromItsDayOn() {
        names(withRule(10), new int[][] {{9, -1}, {10, 0}, {11, 0}, {30000, 0}});
        names(withRule(0), new int[][] {{-1, -1}, {Integer.MIN_VALUE, -1}, {0, 0}, {1, 0}});
        names(withRule(30000), new int[][] {{0, -1}, {29999, -1}, {30000, 0}});
        names(mixed(), new int[][] {{0, -1}, {30000, -1}});
        // It is the day that is asked for, whatever TODAY is.
        HoneyHouse x = withRule(10);
        x.today(20);
        names(x, new int[][] {{9, -1}, {10, 0}});
    }

    private static void nameOfTheLatestFrom() {
        HoneyHouse x = mixed();
        Check.tell(x, "a:heat max 1 from 10;");
        Check.tell(x, "a:heat max 1 from 30;");
        Check.tell(x, "a:heat max 1 from 20;");
        names(x, new int[][] {{9, -1}, {10, 0}, {19, 0}, {20, 2}, {29, 2}, {30, 1}, {99, 1}});
        HoneyHouse y = mixed();
        Check.tell(y, "a:heat min 1 from 20;");
        Check.tell(y, "a:heat max 1 from 10;");
        names(y, new int[][] {{19, 1}, {20, -1}});
    }

    private static void nameOfTheOneToldLast() {
        HoneyHouse x = mixed();
        Check.tell(x, "a:heat max 1 from 20;");
        Check.tell(x, "a:heat max 1 from 10;");
        Check.tell(x, "a:heat max 1 from 10;");
        Check.tell(x, "a:heat max 1 from 10;");
        names(x, new int[][] {{9, -1}, {10, 3}, {19, 3}, {20, 0}});
        Check.tell(x, "a:heat min 1 from 20;");
        names(x, new int[][] {{19, 3}, {20, -1}});
    }

    private static void nameOfTheLeastNumber() {
        HoneyHouse x = mixed();
        Check.tell(x, "c:heat min 1 from 0;");
        Check.tell(x, "b:heat max 1 from 5;");
        Check.tell(x, "a:heat max 1 from 0;");
        names(x, new int[][] {{0, 2}, {4, 2}, {5, 1}});
    }

    private static void nameIsSure() {
        HoneyHouse x = mixed();
        Check.tell(x, "a:" + NO + " from 0;");
        Check.tell(x, "b:" + MAY + " from 0;");
        names(x, new int[][] {{0, -1}});
        Check.tell(x, "c:" + YES + " from 0;");
        names(x, new int[][] {{0, 2}});
        x.pollen(0, 0, 5, 1000);
        x.pollen(1, 0, 5, 1000);
        names(x, new int[][] {{0, 1}});
    }

    private static void nameShutByThen() {
        HoneyHouse x = withRule(10);
        x.shut(0, 20);
        names(x, new int[][] {{9, -1}, {10, 0}, {19, 0}, {20, -1}, {21, -1}, {30000, -1}});
        HoneyHouse y = withRule(10);
        y.shut(0, 30000);
        names(y, new int[][] {{29999, 0}, {30000, -1}});
    }

    private static void nameShutLeavesNoneOfItsName() {
        HoneyHouse x = mixed();
        Check.tell(x, "a:heat max 1 from 0;");
        Check.tell(x, "a:heat max 1 from 10;");
        Check.due("shut", true, x.shut(1, 20));
        names(x, new int[][] {{9, 0}, {10, 1}, {19, 1}, {20, -1}, {9999, -1}});
        // One that another has taken the place of may be shut too.
        Check.due("shut the older one", true, x.shut(0, 5));
        names(x, new int[][] {{4, 0}, {5, -1}, {9, -1}, {10, 1}});
        HoneyHouse y = mixed();
        Check.tell(y, "a:heat max 1 from 10;");
        Check.tell(y, "a:heat max 1 from 10;");
        y.shut(1, 10);
        names(y, new int[][] {{10, -1}, {11, -1}});
    }

    private static void nameAfterOneThatIsShut() {
        HoneyHouse x = mixed();
        Check.tell(x, "a:heat max 1 from 10;");
        x.shut(0, 20);
        Check.tell(x, "a:heat max 1 from 25;");
        names(x, new int[][] {{19, 0}, {20, -1}, {24, -1}, {25, 1}});
        // Told later for the same day: it is in force, and it is not shut.
        Check.tell(x, "a:heat max 1 from 10;");
        names(x, new int[][] {{19, 2}, {20, 2}, {24, 2}, {25, 1}});
    }

    private static void namesAreApart() {
        HoneyHouse x = mixed();
        String[] some = {"abcdefghijkl", "abcdefghijkm", "bbcdefghijkl", "a", "aa", "ab", "ba",
            "r", "z", "zz"};
        for (String one : some) {
            Check.tell(x, one + ":heat max 1 from 0;");
        }
        for (int k = 0; k < some.length; k++) {
            Check.due("all from " + k + " on are in force", k, x.name(0, 0, 1));
            x.shut(k, 1);
        }
        Check.due("all are shut", -1, x.name(0, 0, 1));
        Check.due("none was ahead", 0, x.name(0, 0, 0));
    }

    private static void namesAreAlikeWhateverTheBlanks() {
        HoneyHouse x = mixed();
        Check.tell(x, "bloom:heat max 1 from 10;");
        Check.tell(x, "bloom :heat max 1 from 20;");
        Check.tell(x, " \nbloom\n : heat max 1 from 30 ; ");
        Check.tell(x, "bloom:(heat min 1)from 40;");
        names(x, new int[][] {{9, -1}, {10, 0}, {20, 1}, {30, 2}, {40, -1}});
    }

    private static void nameOfOthers() {
        HoneyHouse x = withRule(0);
        Check.due("empty tank", -1, x.name(0, 1, 10));
        Check.due("tank 10", -1, x.name(0, 10, 10));
        Check.due("tank -1", -1, x.name(0, -1, 10));
        Check.due("batch 0 of none", -1, x.name(1, 0, 10));
        Check.due("where 2", -1, x.name(2, 0, 10));
        Check.due("where -1", -1, x.name(-1, 0, 10));
        x.jar(0, 2);
        Check.due("batch 0", 0, x.name(1, 0, 10));
        Check.due("batch 1 of 1", -1, x.name(1, 1, 10));
        x.jar(0, 1);
        Check.due("emptied", -1, x.name(0, 0, 10));
    }
}
