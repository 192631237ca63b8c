/** Promises 19 and 20, with term III: the texts of rules, and their faults. */
public final class RuleTextTest {
    private static final String[] KEPT = {"or", "and", "not", "water", "colour", "heat", "pollen",
        "land", "min", "max", "from"};

    public static void main(String[] args) {
        blanksWhereOneLikes();
        bytesThatAreNoBlanks();
        wordsAndNumbersSideBySide();
        textOfManyBlanksAndOfTheWholeTape();

        nameHasOneToTwelveLetters();
        nameIsNoWordOfTheTexts();
        nameHasLettersAlone();

        eitherBothOne();
        testsOfEachMeasure();
        numberHasOneToFiveDigits();
        numbersThatCannotBe();

        noRuleGoesOn();
        spoiltAtEachPlace();
        wordsAreTakenWhole();
        textEndsTooSoon();
        cutAtEachPlace();
        nothingComesBehind();

        sixAreOpenAtOnce();
        seventhIsAFault();
        notIsOpenToTheEndOfItsOne();
        firstFaultAlongTheText();
        leastFaultAtOnePlace();

        tapeGoes();
        faultyTextIsNoRule();
        sixteenRules();
        faultOfTheLatest();
        faultOfOthers();
        Check.finish();
    }

    private static void good(String text) {
        HoneyHouse x = new HoneyHouse();
        Check.due(text, 0, Check.tell(x, text));
        Check.due(text + " fault", 0, x.fault(0));
        Check.due(text + " place", -1, x.fault(1));
        Check.due(text + " count", 1, x.count(2));
    }

    private static void bad(String text, int fault, int place) {
        HoneyHouse x = new HoneyHouse();
        Check.due(text, -1, Check.tell(x, text));
        Check.due(text + " fault", fault, x.fault(0));
        Check.due(text + " place", place, x.fault(1));
        Check.due(text + " count", 0, x.count(2));
    }

    // ---- Blanks

    private static void blanksWhereOneLikes() {
        good("a:heat max 1 from 0;");
        good("a:heat max1from0;");
        good("\n\n a \n: heat\nmax\n1\nfrom\n0\n;\n ");
        good("a : not ( heat max 1 ) from 0 ;");
        good("a:not(heat max1)or(heat min0)and not colour max2from3;");
        good(" a:heat max 1 from 0;");
        good("a:heat max 1 from 0; ");
        good("\na:heat max 1 from 0;\n");
    }

    private static void bytesThatAreNoBlanks() {
        char[] none = {0, 9, 11, 12, 13, 31, 33, 127, 128, 138, 160, 255};
        for (char one : none) {
            bad("a:heat" + one + "max 1 from 0;", 1, 6);
            bad(one + "a:heat max 1 from 0;", 1, 0);
            bad("a:heat max 1 from 0;" + one, 1, 20);
        }
    }

    private static void wordsAndNumbersSideBySide() {
        bad("a:heatmax1from0;", 1, 2);
        bad("a:heat maxmin 1 from 0;", 1, 7);
        bad("a:notheat max 1 from 0;", 1, 2);
        bad("a:heat max 1 andheat max 1 from 0;", 1, 13);
        // Two numbers without a blank are one number, whatever it is then.
        good("a:pollen 1min 10 from 0;");
        bad("a:pollen1 1 min 1 from 0;", 1, 10);
        bad("a:pollen11min 1 from 0;", 2, 8);
    }

    private static void textOfManyBlanksAndOfTheWholeTape() {
        good("a:" + " ".repeat(383) + "heat max1from0;");
        bad("a:" + " ".repeat(384) + "heat max1from0", 1, 400);
        bad(" ".repeat(400), 1, 400);
        good(" ".repeat(200) + "a:heat max1from0;" + " ".repeat(183));
    }

    // ---- NAME

    private static void nameHasOneToTwelveLetters() {
        good("a:heat max 1 from 0;");
        good("z:heat max 1 from 0;");
        good("abcdefghijkl:heat max 1 from 0;");
        good("zzzzzzzzzzzz:heat max 1 from 0;");
        good("  abcdefghijkl:heat max 1 from 0;");
        bad("abcdefghijklm:heat max 1 from 0;", 1, 12);
        bad(" abcdefghijklmnopq", 1, 13);
        bad("abcdefghijklm", 1, 12);
        bad("waterwaterwater:heat max 1 from 0;", 1, 12);
        bad(":heat max 1 from 0;", 1, 0);
    }

    private static void nameIsNoWordOfTheTexts() {
        for (String word : KEPT) {
            bad(" " + word + ":heat max 1 from 0;", 1, 1);
            good(word + "x:heat max 1 from 0;");
            good("x" + word + ":heat max 1 from 0;");
            good(word.substring(0, word.length() - 1) + ":heat max 1 from 0;");
        }
        String[] free = {"beat", "ore", "fro", "name", "either", "then", "one", "test", "number"};
        for (String word : free) {
            good(word + ":heat max 1 from 0;");
        }
    }

    private static void nameHasLettersAlone() {
        // The bytes next to a .. z, next to A .. Z, and digits.
        char[] none = {96, 123, 64, 'A', 'Z', 91, '0', '9', '/', '_', '-', 225};
        for (char one : none) {
            bad(one + ":heat max 1 from 0;", 1, 0);
            bad("a" + one + ":heat max 1 from 0;", 1, 1);
        }
        bad("a b:heat max 1 from 0;", 1, 2);
    }

    // ---- EITHER, BOTH, ONE, TEST

    private static void eitherBothOne() {
        good("a:heat max 1 or heat max 2 or heat max 3 from 0;");
        good("a:heat max 1 and heat max 2 and heat max 3 from 0;");
        good("a:heat max 1 and heat max 2 or heat max 3 and not heat max 4 from 0;");
        good("a:(heat max 1)from 0;");
        good("a:not heat max 1 from 0;");
        good("a:not(heat max 1 or heat max 2)and(not heat max 3)from 0;");
    }

    private static void testsOfEachMeasure() {
        String[] measures = {"water", "colour", "heat", "pollen 0", "pollen 4", "land 0", "land 3"};
        for (String measure : measures) {
            good("a:" + measure + " min 0 from 0;");
            good("a:" + measure + " max 1000 from 30000;");
        }
        bad("a:pollen min 1 from 0;", 1, 9);
        bad("a:land max 1 from 0;", 1, 7);
        bad("a:heat 1 max 1 from 0;", 1, 7);
        bad("a:water 1 max 1 from 0;", 1, 8);
        bad("a:colour 1 max 1 from 0;", 1, 9);
    }

    private static void numberHasOneToFiveDigits() {
        good("a:pollen 00004 min 01000 from 30000;");
        good("a:land 00003 max 00000 from 00000;");
        // The 6th digit is at fault at itself, be the number too great or not.
        bad("a:pollen 000004 min 1 from 0;", 1, 14);
        bad("a:land 000003 min 1 from 0;", 1, 12);
        bad("a:heat max 000001 from 0;", 1, 16);
        bad("a:heat max 999999 from 0;", 1, 16);
        bad("a:pollen 1234567 min 1 from 0;", 1, 14);
        bad("a:heat max 1 from 000000;", 1, 23);
        bad("a:heat max 1 from 300001;", 1, 23);
        bad("a:heat max 1 from 000000", 1, 23);
        bad("a:heat max -1 from 0;", 1, 11);
        bad("a:heat max +1 from 0;", 1, 11);
        bad("a:heat max 1.5 from 0;", 1, 12);
    }

    private static void numbersThatCannotBe() {
        bad("a:pollen 5 min 1 from 0;", 2, 9);
        bad("a:pollen 00005 min 1 from 0;", 2, 9);
        bad("a:pollen 99999 min 1 from 0;", 2, 9);
        bad("a:land 4 min 1 from 0;", 2, 7);
        bad("a:land  00004 min 1 from 0;", 2, 8);
        String[] measures = {"water", "colour", "heat", "pollen 0", "land 0"};
        for (String measure : measures) {
            bad("a:" + measure + " max 1001 from 0;", 2, measure.length() + 7);
            bad("a:" + measure + " min 99999 from 0;", 2, measure.length() + 7);
        }
        bad("a:heat max 01001 from 0;", 2, 11);
        bad("a:heat max 1 from 30001;", 2, 18);
        bad("a:heat max 1 from 99999;", 2, 18);
        bad("a:heat max 1 from 30001", 2, 18);
        bad("a:heat max 1001", 2, 11);
    }

    // ---- FAULT 1

    private static void noRuleGoesOn() {
        bad("a1:heat max 1 from 0;", 1, 1);
        bad("a::heat max 1 from 0;", 1, 2);
        bad("a heat max 1 from 0;", 1, 2);
        bad("a:beat max 1 from 0;", 1, 2);
        bad("a:min 1 from 0;", 1, 2);
        bad("a:from 0;", 1, 2);
        bad("a:1 from 0;", 1, 2);
        bad("a:)from 0;", 1, 2);
        bad("a:()from 0;", 1, 3);
        bad("a:and heat max 1 from 0;", 1, 2);
        bad("a:not and heat max 1 from 0;", 1, 6);
        bad("a:not from 0;", 1, 6);
        bad("a:heat max 1 max 1 from 0;", 1, 13);
        bad("a:heat max 1 2 from 0;", 1, 13);
        bad("a:heat max 1 heat max 1 from 0;", 1, 13);
        bad("a:heat max 1 not heat max 1 from 0;", 1, 13);
        bad("a:heat max 1(heat max 1)from 0;", 1, 12);
        bad("a:heat max 1 and or heat max 1 from 0;", 1, 17);
        bad("a:heat max 1 and from 0;", 1, 17);
        bad("a:(heat max 1 heat max 1)from 0;", 1, 14);
        bad("a:(heat max 1;", 1, 13);
        bad("a:(heat max 1 from 0;", 1, 14);
        bad("a:(heat max 1))from 0;", 1, 14);
        bad("a:not heat max 1)from 0;", 1, 16);
        bad("a:heat max 1;", 1, 12);
        bad("a:heat max 1 from ;", 1, 18);
        bad("a:heat max 1 from x;", 1, 18);
        bad("a:heat max 1 from 0.", 1, 19);
        bad("a:heat max 1 from 0 0;", 1, 20);
        bad("a:heat max 1 from 0 and heat max 1;", 1, 20);
    }

    /** A byte, a word and a number that fit nowhere, ahead of each piece of a good text. */
    private static void spoiltAtEachPlace() {
        String[] pieces = {"a", ":", "(", "not", "pollen", "3", "min", "5", "or", "land", "2",
            "max", "7", ")", "and", "heat", "min", "9", "from", "8", ";"};
        String text = String.join(" ", pieces);
        good(text);
        int place = 0;
        for (int k = 0; k < pieces.length; k++) {
            String before = text.substring(0, place);
            String behind = text.substring(place);
            bad(before + "! " + behind, 1, place);
            bad(before + "# " + behind, 1, place);
            boolean wantsName = k == 0;
            boolean wantsNumber = Character.isDigit(pieces[k].charAt(0));
            if (!wantsName) {
                bad(before + "honey " + behind, 1, place);
            }
            if (!wantsNumber) {
                bad(before + "1 " + behind, 1, place);
                bad(before + "123456 " + behind, 1, place);
            }
            place += pieces[k].length() + 1;
        }
    }

    private static void wordsAreTakenWhole() {
        bad("a:heats max 1 from 0;", 1, 2);
        bad("a:heaT max 1 from 0;", 1, 2);
        bad("a:Heat max 1 from 0;", 1, 2);
        bad("a:hea", 1, 2);
        bad("a:heat maxi 1 from 0;", 1, 7);
        bad("a:heat max 1 fromm 0;", 1, 13);
        bad("a:heat max 1 ands heat max 1 from 0;", 1, 13);
        bad("a:noti heat max 1 from 0;", 1, 2);
        // Where no word (no number) is fit, its first byte is already the one, however long it is.
        bad("a:abcdefghijkl max 1 from 0;", 1, 2);
        bad("a:abcdefghijklm max 1 from 0;", 1, 2);
        bad("123456:heat max 1 from 0;", 1, 0);
        bad("a:heat max 1 from 0;abcdefghijklm", 1, 20);
    }

    private static void textEndsTooSoon() {
        bad("", 1, 0);
        bad(" ", 1, 1);
        bad("  \n", 1, 3);
        bad("a", 1, 1);
        bad("a ", 1, 2);
        bad("abcdefghijkl", 1, 12);
        bad("a:", 1, 2);
        bad("a:heat", 1, 6);
        bad("a:heat  ", 1, 8);
        bad("a:pollen 4", 1, 10);
        bad("a:((", 1, 4);
        bad("a:not", 1, 5);
        bad("a:heat max 1 from 0", 1, 19);
        bad("a:heat max 1 from 0 ", 1, 20);
        bad("a:heat max 1 from 30000", 1, 23);
    }

    /** Each beginning of a good text: a word that is cut is at fault itself, else the end is. */
    private static void cutAtEachPlace() {
        String text = "ab:(not pollen 3 min 50)or land 2 max 700 and heat min 9 from 18;";
        good(text);
        for (int length = 0; length < text.length(); length++) {
            int start = length;
            while (start > 2 && Character.isLetter(text.charAt(start - 1))) {
                start--;
            }
            boolean isCut = Character.isLetter(text.charAt(length)) && start > 2;
            bad(text.substring(0, length), 1, isCut ? start : length);
        }
    }

    private static void nothingComesBehind() {
        bad("a:heat max 1 from 0;x", 1, 20);
        bad("a:heat max 1 from 0;;", 1, 20);
        bad("a:heat max 1 from 0; \n;", 1, 22);
        bad("a:heat max 1 from 0;0", 1, 20);
        bad("a:heat max 1 from 0;a:heat max 1 from 0;", 1, 20);
    }

    // ---- FAULT 3

    private static void sixAreOpenAtOnce() {
        good("a:((((((heat max 1))))))from 0;");
        good("a:not not not not not not heat max 1 from 0;");
        good("a:not(not(not(heat max 1)))from 0;");
        good("a:((((((heat max 1)and(heat max 1))))))from 0;");
        good("a:(((((heat max 1)))))and((((((heat max 1))))))or((((((heat max 1))))))from 0;");
    }

    private static void seventhIsAFault() {
        bad("a:(((((((heat max 1)))))))from 0;", 3, 8);
        bad("a:not not not not not not not heat max 1 from 0;", 3, 26);
        bad("a:not(not(not(not heat max 1)))from 0;", 3, 14);
        bad("a:not(not(not((heat max 1))))from 0;", 3, 14);
        bad("a:((((((not heat max 1))))))from 0;", 3, 8);
        bad("a:not not not not not not(heat max 1)from 0;", 3, 25);
        bad("a:((((((heat max 1 and(heat max 1)))))))from 0;", 3, 22);
        bad("a:((((((heat max 1 or not heat max 1))))))from 0;", 3, 22);
        bad("a:(((((((", 3, 8);
    }

    private static void notIsOpenToTheEndOfItsOne() {
        good("a:(((((not heat max 1 and not heat max 1 and (heat max 1))))))from 0;");
        bad("a:(((((not heat max 1 and not(heat max 1))))))from 0;", 3, 29);
        good("a:not heat max 1 and not not not not not not heat max 1 from 0;");
        good("a:not((heat max 1))and not not not((heat max 1)or(heat max 2))or((((((heat max 1"
            + "))))))from 0;");
        bad("a:not(((((heat max 1)and(heat max 1)or((heat max 1))))))from 0;", 3, 39);
        good("a:(not(not heat max 1)and((((heat max 1)))))from 0;");
        good("a:not not not(heat max 1)and((((((heat max 1))))))from 0;");
    }

    // ---- Which fault is told

    private static void firstFaultAlongTheText() {
        bad("a:heat max 1001 xor (((((((", 2, 11);
        bad("a:(((((((pollen 9", 3, 8);
        bad("a:heat maxx 1001 from 30001;", 1, 7);
        bad("a:pollen 5 min 1001 from 30001;", 2, 9);
        bad("a:pollen 4 min 1001 from 30001;", 2, 15);
        bad("abcdefghijklmn:pollen 5", 1, 12);
        bad("a:pollen 5", 2, 9);
    }

    private static void leastFaultAtOnePlace() {
        // A bracket, a not or a number in an unfit place is fault 1, whatever else it is.
        bad("a:((((((heat max 1(", 1, 18);
        bad("a:((((((heat max 1 not heat", 1, 19);
        bad("a:((((((heat(", 1, 12);
        bad("a:heat 30001 max 1 from 0;", 1, 7);
        bad("a:heat max 1 99999 from 0;", 1, 13);
    }

    // ---- rule() and fault()

    private static void tapeGoes() {
        HoneyHouse x = new HoneyHouse();
        Check.tell(x, "a;");
        Check.due("gone after a fault", false, x.end(1));
        Check.due("feed after a fault", 20, x.feed(0, 0, 0, 0, 0));
        x.end(0);
        Check.tell(x, "a:heat max 1 from 0;");
        Check.due("gone after a rule", false, x.end(1));
        Check.due("an empty tape", -1, x.rule());
        Check.due("its fault", 1, x.fault(0));
        Check.due("its place", 0, x.fault(1));
    }

    private static void faultyTextIsNoRule() {
        HoneyHouse x = new HoneyHouse();
        Check.due("first", 0, Check.tell(x, "a:heat max 1 from 0;"));
        Check.due("faulty", -1, Check.tell(x, "b:heat max 1001 from 0;"));
        Check.due("count", 1, x.count(2));
        Check.due("no rule 1", false, x.shut(1, 0));
        Check.due("second", 1, Check.tell(x, "b:heat max 1 from 0;"));
        Check.due("rule 1", true, x.shut(1, 0));
    }

    private static void sixteenRules() {
        HoneyHouse x = new HoneyHouse();
        for (int k = 0; k < 16; k++) {
            Check.due("rule " + k, k, Check.tell(x, "a:heat max 1 from 0;"));
        }
        Check.due("rule 16", -2, Check.tell(x, "a:heat max 1 from 0;"));
        Check.due("count", 16, x.count(2));
        Check.due("without a fault", 0, x.fault(0));
        Check.due("without a place", -1, x.fault(1));
        Check.due("the tape is gone", false, x.end(1));
        Check.due("a fault is ahead of 16", -1, Check.tell(x, "a;"));
        Check.due("the fault", 1, x.fault(0));
        Check.due("the place", 1, x.fault(1));
        Check.due("the tape is gone again", false, x.end(1));
        Check.due("rule 16 again", -2, Check.tell(x, "a:heat max 1 from 0;"));
        Check.due("no fault again", 0, x.fault(0));
        Check.due("count again", 16, x.count(2));
        Check.due("shut 15", true, x.shut(15, 0));
        Check.due("shut 16", false, x.shut(16, 0));
    }

    private static void faultOfTheLatest() {
        HoneyHouse x = new HoneyHouse();
        Check.due("ahead of any", 0, x.fault(0));
        Check.due("its place", -1, x.fault(1));
        Check.tell(x, "a:land 4");
        Check.due("fault 2", 2, x.fault(0));
        Check.due("its place 7", 7, x.fault(1));
        Check.due("told once more", 2, x.fault(0));
        Check.type(x, "b;");
        Check.due("a tape is no rule yet", 2, x.fault(0));
        x.rule();
        Check.due("fault 1", 1, x.fault(0));
        Check.due("its place 1", 1, x.fault(1));
        Check.tell(x, "a:heat max 1 from 0;");
        Check.due("none", 0, x.fault(0));
        Check.due("no place", -1, x.fault(1));
    }

    private static void faultOfOthers() {
        Check.range("fault", 0, 1, what -> {
            HoneyHouse x = new HoneyHouse();
            Check.tell(x, "a;");
            return x.fault(what) == 1;
        });
        HoneyHouse x = new HoneyHouse();
        Check.due("fault 2 ahead of any", -1, x.fault(2));
        Check.tell(x, "a;");
        Check.due("fault 2", -1, x.fault(2));
        Check.due("fault -1", -1, x.fault(-1));
    }
}
