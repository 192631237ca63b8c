import java.util.ArrayList;
import java.util.List;

/** All that can be asked of a small house, so that two houses can be told apart. */
final class Witness {
    private final List<String> calls = new ArrayList<>();
    private final List<Long> answers = new ArrayList<>();
    private final HoneyHouse x;

    /** Asks first what changes nothing; what changes something comes last. */
    Witness(HoneyHouse house) {
        x = house;
        counts();
        lots();
        vessels();
        rules();
        keepers();
        blendsAndTraces();
        tapeThen();
        stepsThen();
        numbersThen();
    }

    void same(String at, Witness other) {
        Check.due(at + ": as many answers", calls.size(), other.calls.size());
        for (int k = 0; k < calls.size() && k < other.calls.size(); k++) {
            Check.due(at + ": " + calls.get(k), answers.get(k), other.answers.get(k));
        }
    }

    private void add(String call, long answer) {
        calls.add(call);
        answers.add(answer);
    }

    private void counts() {
        for (int what = 0; what <= 3; what++) {
            add("count " + what, x.count(what));
        }
    }

    private void lots() {
        for (int lot = 0; lot <= 3; lot++) {
            for (int what = 0; what <= 6; what++) {
                add("of " + lot + " " + what, x.of(lot, what));
            }
            for (int kind = 0; kind <= 4; kind++) {
                add("low " + lot + " " + kind, x.span(lot, kind, 0));
                add("high " + lot + " " + kind, x.span(lot, kind, 1));
            }
        }
    }

    private void vessels() {
        int[][] some = {{0, 0}, {0, 1}, {0, 2}, {0, 9}, {1, 0}, {1, 1}, {1, 2}};
        int[] measures = {0, 1, 2, 10, 21, 31};
        for (int[] one : some) {
            String at = " " + one[0] + " " + one[1] + " ";
            for (int what = 0; what <= 4; what++) {
                add("holds" + at + what, x.holds(one[0], one[1], what));
            }
            for (int lot = 0; lot <= 2; lot++) {
                add("part" + at + lot, x.part(one[0], one[1], lot));
            }
            for (int what : measures) {
                add("measure" + at + what, x.measure(one[0], one[1], what));
            }
        }
    }

    private void rules() {
        add("fault 0", x.fault(0));
        add("fault 1", x.fault(1));
        for (int rule = 0; rule <= 3; rule++) {
            add("says " + rule, x.says(rule, 0, 0));
            add("says of a batch " + rule, x.says(rule, 1, 0));
        }
        int[] days = {-1, 0, 4, 5, 8, 9, 19, 20, 29999, 30000};
        for (int day : days) {
            add("name on " + day, x.name(0, 0, day));
        }
    }

    private void keepers() {
        for (int keeper = 3; keeper <= 5; keeper++) {
            add("paid " + keeper, x.paid(keeper));
            for (int what = 0; what <= 3; what++) {
                add("whose " + keeper + " " + what, x.whose(keeper, what));
            }
        }
    }

    private void blendsAndTraces() {
        for (int k = 0; k <= 2; k++) {
            add("parts " + k, x.parts(k));
            add("found " + k, x.found(k));
        }
    }

    /** What is on the tape shows when it is read as a rule. */
    private void tapeThen() {
        int length = Check.feed(x, Check.five("max 1 from 20000;", 0));
        add("feed", length);
        add("rule", x.rule());
        add("then fault 0", x.fault(0));
        add("then fault 1", x.fault(1));
        add("then name", x.name(0, 0, 20000));
        add("then count", x.count(2));
    }

    private void stepsThen() {
        for (int water = 170; water <= 300; water += 10) {
            int lot = x.lot(5, 1000, water, 0, 0);
            add("lot", lot);
            add("its pay by water " + water, x.of(lot, 6));
        }
    }

    private void numbersThen() {
        add("shut 0", x.shut(0, 25));
        add("shut 1", x.shut(1, 9));
        add("shut 2", x.shut(2, 30000));
        add("jar", x.jar(0, 1));
        add("its day", x.holds(1, 2, 4));
        add("test", x.test(0, 171));
        add("today", x.today(13));
        add("before", x.today(12));
        add("before that", x.today(11));
    }

    private void add(String call, boolean answer) {
        add(call, answer ? 1 : 0);
    }
}
