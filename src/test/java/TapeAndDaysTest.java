/** Promises 1 to 4 and 31: a new object, the tape, the days, the counts. */
public final class TapeAndDaysTest {
    private static final String RULE = "a:heat max1from0;   ";

    public static void main(String[] args) {
        newHasNoLotsBatchesRules();
        newTapeIsEmpty();
        newTanksAreEmpty();
        newKeepersHaveNothing();
        newStepsPayNothing();
        objectsAreApart();

        feedTellsHowMany();
        feedUpTo400();
        feedBeyond400DoesNothing();
        feedTo401DoesNothing();
        feedBringsTheHighestByteFirst();
        feedKeepsBytesUpTo255();
        feedComesBehindTheEnd();

        endUpToTheLength();
        endOfAnEmptyTape();
        endRefusedDoesNothing();
        endCutsTheText();

        todayEdges();
        todayGoesNotBack();
        todayRefusedDoesNothing();

        countOfEach();
        countOfOthers();
        Check.finish();
    }

    // ---- Promise 1

    private static void newHasNoLotsBatchesRules() {
        HoneyHouse x = new HoneyHouse();
        for (int what = 0; what <= 3; what++) {
            Check.due("new count " + what, 0, x.count(what));
        }
        Check.due("new of", -1, x.of(0, 0));
        Check.due("new span", -1, x.span(0, 0, 0));
        Check.due("new pollen", false, x.pollen(0, 0, 0, 1000));
        Check.due("new test", -1000000000, x.test(0, 150));
        Check.due("new pour", -1, x.pour(0, 0, 1));
        Check.due("new part", -1, x.part(0, 0, 0));
        Check.due("new trace", -1, x.trace(0));
        Check.due("new found", -1, x.found(0));
        Check.due("new batch", -1, x.holds(1, 0, 0));
        Check.due("new shut", false, x.shut(0, 0));
        Check.due("new says", -1, x.says(0, 0, 0));
        Check.due("new name", -1, x.name(0, 0, 0));
        Check.due("new fault", 0, x.fault(0));
        Check.due("new fault's place", -1, x.fault(1));
        Check.due("new parts", -1, x.parts(0));
    }

    private static void newTapeIsEmpty() {
        HoneyHouse x = new HoneyHouse();
        Check.due("new end 1", false, x.end(1));
        Check.due("new end 0", true, x.end(0));
        Check.due("new rule", -1, x.rule());
        Check.due("new rule's fault", 1, x.fault(0));
        Check.due("new rule's place", 0, x.fault(1));
    }

    private static void newTanksAreEmpty() {
        HoneyHouse x = new HoneyHouse();
        for (int tank = 0; tank <= 9; tank++) {
            for (int what = 0; what <= 4; what++) {
                Check.due("new tank " + tank + " " + what, 0, x.holds(0, tank, what));
            }
            Check.due("measure of new tank " + tank, -1, x.measure(0, tank, 0));
        }
    }

    private static void newKeepersHaveNothing() {
        HoneyHouse x = new HoneyHouse();
        for (int keeper = 0; keeper <= 9; keeper++) {
            Check.due("new paid " + keeper, 0, x.paid(keeper));
            for (int what = 0; what <= 3; what++) {
                Check.due("new whose " + keeper + " " + what, 0, x.whose(keeper, what));
            }
        }
    }

    private static void newStepsPayNothing() {
        HoneyHouse x = new HoneyHouse();
        x.lot(0, 200000, 100, 0, 0);
        Check.due("pay by new steps", 0, x.of(0, 6));
        x.step(3, 100, 1000);
        x.lot(0, 1000, 100, 0, 0);
        Check.due("the other steps have water 0", 1000, x.of(1, 6));
        x.step(0, 300, 0);
        x.lot(0, 1000, 100, 0, 0);
        Check.due("price 0", 0, x.of(2, 6));
    }

    private static void objectsAreApart() {
        HoneyHouse x = new HoneyHouse();
        HoneyHouse y = new HoneyHouse();
        x.lot(0, 5, 100, 0, 0);
        x.tank(0, 5, 5);
        x.pour(0, 0, 5);
        x.step(0, 300, 1000);
        x.today(9);
        Check.tell(x, RULE);
        Check.feed(x, Check.five(RULE, 0));
        Check.due("lots of another", 0, y.count(0));
        Check.due("rules of another", 0, y.count(2));
        Check.due("today of another", 0, y.count(3));
        Check.due("tank of another", 0, y.holds(0, 0, 3));
        Check.due("tape of another", false, y.end(1));
        y.lot(0, 1000, 100, 0, 0);
        Check.due("steps of another", 0, y.of(0, 6));
    }

    // ---- Promise 2

    private static void feedTellsHowMany() {
        HoneyHouse x = new HoneyHouse();
        Check.due("feed", 20, x.feed(0, 0, 0, 0, 0));
        Check.due("feed again", 40, x.feed(-1, -1, -1, -1, -1));
    }

    private static void feedUpTo400() {
        HoneyHouse x = new HoneyHouse();
        for (int k = 1; k <= 20; k++) {
            Check.due("feed " + k, 20 * k, x.feed(0, 0, 0, 0, 0));
        }
        Check.due("feed 21", -1, x.feed(0, 0, 0, 0, 0));
    }

    /** A rule's text of 400 bytes: a blank lacks nowhere, and the last byte is the last one. */
    private static HoneyHouse fullTape() {
        HoneyHouse x = new HoneyHouse();
        Check.type(x, "a:" + " ".repeat(383) + "heat max1from0;");
        return x;
    }

    private static void feedBeyond400DoesNothing() {
        HoneyHouse x = fullTape();
        Check.due("feed beyond 400", -1, Check.feed(x, Check.five("!!!!!!!!!!!!!!!!!!!!", 0)));
        Check.due("still 400", false, x.end(401));
        Check.due("the text still stands", 0, x.rule());
        Check.due("feed anew", 20, x.feed(0, 0, 0, 0, 0));
    }

    private static void feedTo401DoesNothing() {
        HoneyHouse x = new HoneyHouse();
        Check.type(x, "a:" + " ".repeat(364) + "heat max1from0;");
        Check.due("feed to 401", -1, Check.feed(x, Check.five("!!!!!!!!!!!!!!!!!!!!", 0)));
        Check.due("still 381, not 382", false, x.end(382));
        Check.due("still 381", true, x.end(381));
        Check.due("the text still stands", 0, x.rule());
        HoneyHouse y = fullTape();
        y.end(380);
        Check.due("feed to 400", 400, y.feed(0, 0, 0, 0, 0));
    }

    private static void feedBringsTheHighestByteFirst() {
        HoneyHouse x = new HoneyHouse();
        // "a:he" "at m" "ax1f" "rom0" ";   "
        x.feed(0x613a6865, 0x6174206d, 0x61783166, 0x726f6d30, 0x3b202020);
        Check.due("rule of fed bytes", 0, x.rule());
    }

    private static void feedKeepsBytesUpTo255() {
        int[] bytes = {0x00, 0x7f, 0x80, 0xe1, 0xff};
        for (int one : bytes) {
            for (int place = 0; place < 4; place++) {
                HoneyHouse x = new HoneyHouse();
                int shift = 24 - 8 * place;
                int blanks = 0x20202020 & ~(255 << shift);
                x.feed(blanks | one << shift, 0x20202020, 0x20202020, 0x20202020, 0x20202020);
                x.rule();
                Check.due("byte " + one + " at " + place, place, x.fault(1));
            }
        }
    }

    private static void feedComesBehindTheEnd() {
        HoneyHouse x = new HoneyHouse();
        Check.feed(x, Check.five("a:heat max!!!!!!!!!!", 0));
        x.end(10);
        Check.due("feed behind 10", 30, Check.feed(x, Check.five("1from0;", 0)));
        Check.due("what is cut off is gone", 0, x.rule());
        Check.feed(x, Check.five(RULE, 0));
        x.end(15);
        x.feed(0x3b202020, 0x20202020, 0x20202020, 0x20202020, 0x20202020);
        Check.due("the number was cut off", -1, x.rule());
        Check.due("its place", 15, x.fault(1));
    }

    // ---- Promise 3

    private static void endUpToTheLength() {
        for (int length = 20; length <= 400; length += 380) {
            int bytes = length;
            Check.range("end of " + bytes, 0, bytes, n -> {
                HoneyHouse x = new HoneyHouse();
                for (int k = 0; k < bytes; k += 20) {
                    x.feed(0, 0, 0, 0, 0);
                }
                return x.end(n);
            });
        }
    }

    private static void endOfAnEmptyTape() {
        Check.range("end of nothing", 0, 0, n -> new HoneyHouse().end(n));
        HoneyHouse x = new HoneyHouse();
        x.end(0);
        Check.due("feed behind nothing", 20, x.feed(0, 0, 0, 0, 0));
    }

    private static void endRefusedDoesNothing() {
        HoneyHouse x = new HoneyHouse();
        Check.feed(x, Check.five(RULE, 0));
        x.end(17);
        Check.due("end 18", false, x.end(18));
        Check.due("end -1", false, x.end(-1));
        Check.due("still 17", 37, Check.feed(x, Check.five("", 0)));
        Check.due("the text still stands", 0, x.rule());
    }

    private static void endCutsTheText() {
        HoneyHouse x = new HoneyHouse();
        Check.feed(x, Check.five(RULE, 0));
        Check.due("end 16", true, x.end(16));
        Check.due("once cut, 17 are not there", false, x.end(17));
        Check.due("all that is left", true, x.end(16));
        Check.due("cut", -1, x.rule());
        Check.due("its place", 16, x.fault(1));
        Check.feed(x, Check.five(RULE, 0));
        Check.due("end 17", true, x.end(17));
        Check.due("no byte lacks", 0, x.rule());
        Check.due("gone with the rule", false, x.end(1));
    }

    // ---- Promise 4

    private static void todayEdges() {
        Check.range("today", 0, 30000, day -> new HoneyHouse().today(day));
        Check.range("today of 7", 7, 30000, day -> {
            HoneyHouse x = new HoneyHouse();
            x.today(7);
            return x.today(day);
        });
        Check.range("today of 30000", 30000, 30000, day -> {
            HoneyHouse x = new HoneyHouse();
            x.today(30000);
            return x.today(day);
        });
    }

    private static void todayGoesNotBack() {
        HoneyHouse x = new HoneyHouse();
        Check.due("today 7", true, x.today(7));
        Check.due("it is 7", 7, x.count(3));
        Check.due("today 7 again", true, x.today(7));
        Check.due("today 6", false, x.today(6));
        Check.due("today 8", true, x.today(8));
        Check.due("it is 8", 8, x.count(3));
        Check.due("today 30000", true, x.today(30000));
        Check.due("it is 30000", 30000, x.count(3));
    }

    private static void todayRefusedDoesNothing() {
        HoneyHouse x = new HoneyHouse();
        x.today(7);
        x.today(6);
        Check.due("still 7 after 6", 7, x.count(3));
        x.today(-1);
        Check.due("still 7 after -1", 7, x.count(3));
        x.today(30001);
        Check.due("still 7 after 30001", 7, x.count(3));
    }

    // ---- Promise 31

    private static void countOfEach() {
        HoneyHouse x = new HoneyHouse();
        x.lot(0, 10, 100, 0, 0);
        x.lot(0, 10, 100, 0, 0);
        x.tank(0, 100, 0);
        x.pour(0, 0, 10);
        x.jar(0, 1);
        x.jar(0, 1);
        x.jar(0, 1);
        Check.tell(x, RULE);
        x.today(5);
        Check.due("lots", 2, x.count(0));
        Check.due("batches", 3, x.count(1));
        Check.due("rules", 1, x.count(2));
        Check.due("today", 5, x.count(3));
    }

    private static void countOfOthers() {
        Check.range("count", 0, 3, what -> new HoneyHouse().count(what) == 0);
        Check.due("count -1", -1, new HoneyHouse().count(-1));
        Check.due("count 4", -1, new HoneyHouse().count(4));
    }
}
