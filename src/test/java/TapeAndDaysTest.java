/** Promises 1 to 4 and 31: a new object, the tape, the days, the counts. */
public final class TapeAndDaysTest {
    public static void main(String[] args) {
        newObject();
        tapeGrows();
        tapeIsCut();
        bytesComeHighestFirst();
        daysGoOn();
        counts();
        Check.finish();
    }

    private static void newObject() {
        HoneyHouse x = new HoneyHouse();
        for (int what = 0; what <= 3; what++) {
            Check.due("new count " + what, 0, x.count(what));
        }
        Check.due("new of", -1, x.of(0, 0));
        Check.due("new span", -1, x.span(0, 0, 0));
        Check.due("new fault 0", 0, x.fault(0));
        Check.due("new fault 1", -1, x.fault(1));
        Check.due("new parts", -1, x.parts(0));
        Check.due("new found", -1, x.found(0));
        Check.due("new paid", 0, x.paid(9));
        Check.due("new holds grams", 0, x.holds(0, 9, 0));
        Check.due("new holds room", 0, x.holds(0, 9, 3));
        Check.due("new holds price", 0, x.holds(0, 9, 4));
        Check.due("new batch", -1, x.holds(1, 0, 0));
        Check.due("new end 0", true, x.end(0));
        Check.due("new end 1", false, x.end(1));
    }

    private static void tapeGrows() {
        HoneyHouse x = new HoneyHouse();
        for (int k = 1; k <= 20; k++) {
            Check.due("feed " + k, 20 * k, x.feed(0, 0, 0, 0, 0));
        }
        Check.due("feed beyond 400", -1, x.feed(0, 0, 0, 0, 0));
        Check.due("still 400", true, x.end(400));
        x.end(381);
        Check.due("feed to 401", -1, x.feed(0, 0, 0, 0, 0));
        Check.due("nothing came", false, x.end(382));
        x.end(380);
        Check.due("feed to 400", 400, x.feed(0, 0, 0, 0, 0));
    }

    private static void tapeIsCut() {
        HoneyHouse x = new HoneyHouse();
        x.feed(0, 0, 0, 0, 0);
        Check.due("end 21", false, x.end(21));
        Check.due("end -1", false, x.end(-1));
        Check.due("end least", false, x.end(Integer.MIN_VALUE));
        Check.due("end most", false, x.end(Integer.MAX_VALUE));
        Check.due("end 20", true, x.end(20));
        Check.due("end 7", true, x.end(7));
        Check.due("end 8", false, x.end(8));
        Check.due("feed behind 7", 27, x.feed(0, 0, 0, 0, 0));
        Check.due("end 0", true, x.end(0));
        Check.due("feed behind 0", 20, x.feed(0, 0, 0, 0, 0));
    }

    private static void bytesComeHighestFirst() {
        HoneyHouse x = new HoneyHouse();
        // "a:he" "at m" "ax1f" "rom0" ";   "
        x.feed(0x613a6865, 0x6174206d, 0x61783166, 0x726f6d30, 0x3b202020);
        Check.due("rule of fed bytes", 0, x.rule());
        x.feed(0xff3a6865, 0x6174206d, 0x61783166, 0x726f6d30, 0x3b202020);
        Check.due("rule with byte 255", -1, x.rule());
        Check.due("its fault", 1, x.fault(0));
        Check.due("its place", 0, x.fault(1));
        // What is behind the end is not read again.
        x.feed(0x613a6865, 0x6174206d, 0x61783166, 0x726f6d30, 0x3b202020);
        x.end(15);
        x.feed(0x3b202020, 0x20202020, 0x20202020, 0x20202020, 0x20202020);
        Check.due("joined", -1, x.rule());
        Check.due("a number lacks", 15, x.fault(1));
    }

    private static void daysGoOn() {
        HoneyHouse x = new HoneyHouse();
        Check.due("today -1", false, x.today(-1));
        Check.due("today 0", true, x.today(0));
        Check.due("today 7", true, x.today(7));
        Check.due("today 7 again", true, x.today(7));
        Check.due("today 6", false, x.today(6));
        Check.due("today is 7", 7, x.count(3));
        Check.due("today 30001", false, x.today(30001));
        Check.due("today is 7 still", 7, x.count(3));
        Check.due("today 30000", true, x.today(30000));
        Check.due("today is 30000", 30000, x.count(3));
    }

    private static void counts() {
        HoneyHouse x = new HoneyHouse();
        x.lot(0, 10, 100, 0, 0);
        x.lot(0, 10, 100, 0, 0);
        x.tank(0, 100, 0);
        x.pour(0, 0, 10);
        x.jar(0, 1);
        x.jar(0, 1);
        x.jar(0, 1);
        Check.tell(x, "a:heat max 1 from 0;");
        x.today(5);
        Check.due("lots", 2, x.count(0));
        Check.due("batches", 3, x.count(1));
        Check.due("rules", 1, x.count(2));
        Check.due("today", 5, x.count(3));
        Check.due("count -1", -1, x.count(-1));
        Check.due("count 4", -1, x.count(4));
    }
}
