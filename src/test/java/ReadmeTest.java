/** What README.md tells of the use of the class, call by call. */
public final class ReadmeTest {
    public static void main(String[] args) {
        HoneyHouse house = new HoneyHouse();
        Check.due("step", true, house.step(0, 200, 4000));
        int lot = house.lot(3, 25000, 172, 40, 1);
        Check.due("lot", 0, lot);
        Check.due("paid", 100000, house.paid(3));
        Check.due("pollen", true, house.pollen(lot, 0, 500, 700));
        Check.due("tank", true, house.tank(0, 100000, 10));
        Check.due("pour", 0, house.pour(lot, 0, 25000));
        int rule = tell(house, "bloom: pollen 0 min 450 and not water min 200 from 10;");
        Check.due("rule", 0, rule);
        Check.due("says", 2, house.says(rule, 0, 0));
        Check.due("name on day 9", HoneyHouse.NONE, house.name(0, 0, 9));
        Check.due("name on day 10", 0, house.name(0, 0, 10));
        Check.due("blend", 200, house.blend(1, 20, 180, 30, 50));
        Check.due("jar", 0, house.jar(0, 500));
        Check.due("trace", 1, house.trace(lot));
        Check.due("found", 0, house.found(0));
        Check.finish();
    }

    // Not Check.tell(): this is the one that README.md hands out.
    static int tell(HoneyHouse house, String text) {
        for (int at = 0; at < text.length(); at += 20) {
            int[] five = new int[5];
            for (int k = 0; k < 20; k++) {
                int one = at + k < text.length() ? text.charAt(at + k) : ' ';
                five[k / 4] = five[k / 4] << 8 | one;
            }
            house.feed(five[0], five[1], five[2], five[3], five[4]);
        }
        house.end(text.length());
        return house.rule();
    }
}
