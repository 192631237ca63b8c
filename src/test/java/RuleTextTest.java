/** Promises 19 and 20: the texts of rules, and their faults. */
public final class RuleTextTest {
    public static void main(String[] args) {
        goodTexts();
        unfitBytes();
        longWordsAndNumbers();
        numbersThatCannotBe();
        openAtOnce();
        firstFaultCounts();
        tapeGoes();
        sixteenRules();
        faultsOfOtherNumbers();
        Check.finish();
    }

    private static void good(String text) {
        HoneyHouse x = new HoneyHouse();
        Check.due(text, 0, Check.tell(x, text));
        Check.due(text + " fault", 0, x.fault(0));
        Check.due(text + " place", -1, x.fault(1));
        Check.due(text + " count", 1, x.count(2));
    }

    private static void bad(String text, int fault, int place) {
        HoneyHouse x = new HoneyHouse();
        Check.due(text, -1, Check.tell(x, text));
        Check.due(text + " fault", fault, x.fault(0));
        Check.due(text + " place", place, x.fault(1));
        Check.due(text + " count", 0, x.count(2));
    }

    private static void goodTexts() {
        good("a:heat max 1 from 0;");
        good("a:heat max1from0;");
        good("a:not(heat max1)or(heat min0)and not colour max2from3;");
        bad("a:heatmax1from0;", 1, 2);
        good("\n\n a \n: heat\nmax\n1\nfrom\n0\n;\n ");
        good("abcdefghijkl:water min 1000 from 30000;");
        good("a:pollen0min1or pollen4max2and land0min3or land 3max4from5;");
        good("a:pollen 00004 min 01000 from 00000;");
        good("a:((((((heat max 1))))))from 0;");
        good("a:not not not not not not heat max 1 from 0;");
        good("a:not(not(not(heat max 1)))from 0;");
        good("a:not heat max 1 and not heat max 1 or not(heat max 1)and(not heat max 1)from 0;");
        good("a:not not not heat max 1 and not not not(((heat max 1)))or((((((colour min 0))))))from 0;");
        good("  abcdefghijkl:heat max 1 from 0;");
        good("beat:heat max 1 from 0;");
        good("ore:heat max 1 from 0;");
        good("fro:heat max 1 from 0;");
        good("name:heat max 1 from 0;");
        good("either:heat max 1 from 0;");
        good("then:heat max 1 from 0;");
        good("z:" + " ".repeat(380) + "heat max 1from 0;");
    }

    private static void unfitBytes() {
        bad("", 1, 0);
        bad("  \n", 1, 3);
        bad("a", 1, 1);
        bad("a ", 1, 2);
        bad("a:", 1, 2);
        bad("a:heat", 1, 6);
        bad("a:heat max 1 from 0", 1, 19);
        bad("a:heat max 1 from 0 ", 1, 20);
        bad("a:heat max 1 from 0;x", 1, 20);
        bad("a:heat max 1 from 0; \n;", 1, 22);
        bad("a b:heat max 1 from 0;", 1, 2);
        bad("a1:heat max 1 from 0;", 1, 1);
        bad("A:heat max 1 from 0;", 1, 0);
        bad("aB:heat max 1 from 0;", 1, 1);
        bad("a:heaT max 1 from 0;", 1, 2);
        bad("a:hea", 1, 2);
        bad("a:beat max 1 from 0;", 1, 2);
        bad("a:heats max 1 from 0;", 1, 2);
        bad("a:heat 1 max 1 from 0;", 1, 7);
        bad("a:heat max 1 max 1 from 0;", 1, 13);
        bad("a:heat maxmin 1 from 0;", 1, 7);
        bad("a:heat max 1 2 from 0;", 1, 13);
        bad("a:pollen min 1 from 0;", 1, 9);
        bad("a:land max 1 from 0;", 1, 7);
        bad("a:notheat max 1 from 0;", 1, 2);
        bad("a:not and heat max 1 from 0;", 1, 6);
        bad("a:()from 0;", 1, 3);
        bad("a:(heat max 1 heat max 1)from 0;", 1, 14);
        bad("a:(heat max 1;", 1, 13);
        bad("a:heat max 1 not heat max 1 from 0;", 1, 13);
        bad("a:heat max 1(heat max 1)from 0;", 1, 12);
        bad("a:heat max 1 and from 0;", 1, 17);
        bad("a:heat max -1 from 0;", 1, 11);
        bad("a:heat\tmax 1 from 0;", 1, 6);
        bad("a:heat\rmax 1 from 0;", 1, 6);
        bad("a:heat max 1 from\0000;", 1, 17);
        bad("\u00e9:heat max 1 from 0;", 1, 0);
        bad("a:heat max 1 from x;", 1, 18);
        bad("a:heat max 1 from 0.", 1, 19);
        bad("a::heat max 1 from 0;", 1, 2);
        String[] kept = {"or", "and", "not", "water", "colour", "heat", "pollen", "land", "min",
            "max", "from"};
        for (String word : kept) {
            bad(" " + word + ":heat max 1 from 0;", 1, 1);
        }
    }

    private static void longWordsAndNumbers() {
        bad("abcdefghijklm:heat max 1 from 0;", 1, 12);
        bad(" abcdefghijklmnopq", 1, 13);
        bad("a:heat max 000001 from 0;", 1, 16);
        bad("a:heat max 999999 from 0;", 1, 16);
        bad("a:pollen 1234567 min 1 from 0;", 1, 14);
        bad("a:heat max 1 from 000000;", 1, 23);
        // Where no word (no number) is fit, the first byte is already the one.
        bad("a:abcdefghijklm max 1 from 0;", 1, 2);
        bad("123456:heat max 1 from 0;", 1, 0);
    }

    private static void numbersThatCannotBe() {
        bad("a:pollen 5 min 1 from 0;", 2, 9);
        bad("a:pollen 00005 min 1 from 0;", 2, 9);
        bad("a:land 4 min 1 from 0;", 2, 7);
        bad("a:heat max 1001 from 0;", 2, 11);
        bad("a:pollen 0 min 99999 from 0;", 2, 15);
        bad("a:heat max 1 from 30001;", 2, 18);
        bad("a:heat max 1 from 30001", 2, 18);
        bad("a:heat max 1001", 2, 11);
    }

    private static void openAtOnce() {
        bad("a:(((((((heat max 1)))))))from 0;", 3, 8);
        bad("a:not not not not not not not heat max 1 from 0;", 3, 26);
        bad("a:not(not(not(not heat max 1)))from 0;", 3, 14);
        bad("a:((((((not heat max 1))))))from 0;", 3, 8);
        bad("a:((((((heat max 1 and(", 3, 22);
        good("a:((((((heat max 1)and(heat max 1))))))from 0;");
        good("a:(((((not heat max 1 and not heat max 1 and (heat max 1))))))from 0;");
        bad("a:(((((not heat max 1 and not(heat max 1))))))from 0;", 3, 29);
        good("a:not((heat max 1))and not((heat max 1)) and(not(not(not heat max 1)))from 0;");
    }

    private static void firstFaultCounts() {
        bad("a:heat max 1001 xor (((((((", 2, 11);
        bad("a:(((((((pollen 9", 3, 8);
        // A bracket in an unfit place is fault 1, however many are open.
        bad("a:((((((heat max 1(", 1, 18);
        bad("a:((((((heat max 1 not heat", 1, 19);
        bad("a:((((((heat(", 1, 12);
    }

    private static void tapeGoes() {
        HoneyHouse x = new HoneyHouse();
        Check.tell(x, "a;");
        Check.due("gone after a fault", false, x.end(1));
        Check.tell(x, "a:heat max 1 from 0;");
        Check.due("gone after a rule", false, x.end(1));
        Check.due("empty", -1, x.rule());
        Check.due("empty fault", 1, x.fault(0));
        Check.due("empty place", 0, x.fault(1));
    }

    private static void sixteenRules() {
        HoneyHouse x = new HoneyHouse();
        for (int k = 0; k < 16; k++) {
            Check.due("rule " + k, k, Check.tell(x, "a:heat max 1 from 0;"));
        }
        Check.due("rule 16", -2, Check.tell(x, "a:heat max 1 from 0;"));
        Check.due("without a fault", 0, x.fault(0));
        Check.due("without a place", -1, x.fault(1));
        Check.due("the tape is gone", false, x.end(1));
        Check.due("a fault is told first", -1, Check.tell(x, "a;"));
        Check.due("the fault", 1, x.fault(0));
        Check.due("the place", 1, x.fault(1));
        Check.due("count", 16, x.count(2));
        Check.due("shut 15", true, x.shut(15, 0));
        Check.due("shut 16", false, x.shut(16, 0));
    }

    private static void faultsOfOtherNumbers() {
        HoneyHouse x = new HoneyHouse();
        Check.tell(x, "a;");
        Check.due("fault 2", -1, x.fault(2));
        Check.due("fault -1", -1, x.fault(-1));
        Check.tell(x, "a:heat max 1 from 0;");
        Check.due("the latest alone", 0, x.fault(0));
        Check.due("its place", -1, x.fault(1));
    }
}
