import java.math.BigInteger;

/** The edges of the promise 39: which values stand in the digest, in which order, and the overflow. */
public final class DigestEdgesTest {
    private static final Checks CHECKS = new Checks();

    public static void main(String[] args) {
        ofAnEmptyHouse();
        ofAFullHouse();
        ofEachChange();
        CHECKS.end();
    }

    private static void due(String call, long got, long want) {
        CHECKS.due(call, got, want);
    }

    private static void ofAnEmptyHouse() {
        CHECKS.sentence("h is 43081 at first; then h becomes 31 * h + v (long arithmetic that overflows) for each of these values v");
        // 166 values, all 0: the month, two counts, 150 of the hours, two sums, five sets, five shortages, the length.
        long h = 43081;
        for (int value = 0; value < 166; value++) {
            h = 31 * h;
        }
        due("digest() of a new object", new House().p.digest(), h);
        BigInteger exact = BigInteger.valueOf(31).pow(166).multiply(BigInteger.valueOf(43081));
        due("digest() of a new object, modulo 2 to the 64", new House().p.digest(), exact.longValue());
        House house = new House();
        house.type("x");
        due("digest() of a text of 1", house.p.digest(), h + 1);
        house.type("x".repeat(59));
        due("digest() of a text of 60", house.p.digest(), h + 60);
        house.p.clearText();
        due("digest() of an empty text", house.p.digest(), h);
    }

    /** The digest by the answers of the other calls. */
    private static long digestOf(KindergartenPlanner p, int month, int length) {
        long h = 43081;
        h = 31 * h + month;
        h = 31 * h + p.children();
        for (int child = 0; child < 24; child++) {
            if (p.age(child) != House.BAD) {
                h = 31 * h + child;
                h = 31 * h + p.age(child);
                h = 31 * h + p.isAdmitted(child);
                h = 31 * h + p.hours(child);
                h = 31 * h + (p.isAdmitted(child) == 1 ? p.fee(child) : p.points(child));
            }
        }
        h = 31 * h + p.educators();
        for (int day = 0; day < 5; day++) {
            for (int hour = 0; hour < 10; hour++) {
                h = 31 * h + p.present(day, hour);
                h = 31 * h + p.need(day, hour);
                h = 31 * h + p.staff(day, hour);
            }
        }
        h = 31 * h + p.unsafeHours();
        h = 31 * h + p.income();
        for (int day = 0; day < 5; day++) {
            h = 31 * h + p.coverOf(day);
        }
        for (int day = 0; day < 5; day++) {
            h = 31 * h + p.shortage(0, day);
        }
        return 31 * h + length;
    }

    private static void ofAFullHouse() {
        CHECKS.sentence("in this order: the number of the month; children(); for each child, by ascending numbers, the number, age(), isAdmitted(), hours(), and points() if it is waiting or fee() if it is admitted; educators(); for each day, and in it for each hour, present(), need() and staff(); unsafeHours(); income(); coverOf() for the days 0 to 4; shortage() of week 0 for the days 0 to 4; the length of the text.");
        House house = House.withStaff(2);
        house.p.setRatio(2, 2);
        for (int child = 0; child < 24; child++) {
            house.add(36 + child, child % 12, child % 5, child % 7, 10);
        }
        house.p.admit();
        house.months(2);
        house.p.addSubstitute(31, 5, 9);
        house.p.addSubstitute(31, 5, 8);
        house.p.setHoliday(0, 0, true);
        house.p.cover(0);
        house.p.setHoliday(1, 0, true);
        house.p.setRatio(1, 2);
        house.p.work(1, 4, 3, 4);
        house.type("abc");
        CHECKS.holds("some wait, some are admitted, some hours are not safe, and some substitutes are given",
            house.p.waiting(0) >= 0 && house.p.income() > 0 && house.p.unsafeHours() > 0
                && house.p.coverOf(0) > 0 && house.p.shortage(0, 0) > house.p.shortage(1, 0));
        due("digest() of a full house", house.p.digest(), digestOf(house.p, 2, 3));
    }

    /** What is in the digest changes it, and what is not in it does not. */
    private static void ofEachChange() {
        CHECKS.sentence("Computes a hash of the state.");
        House house = House.withStaff(1);
        house.add(40, 0, 0, 0, 1);
        house.p.admit();
        long before = house.p.digest();
        due("digest() again", house.p.digest(), before);
        house.p.setHoliday(0, 1, true);
        due("digest() with a holiday in week 1", house.p.digest(), before);
        house.p.setRate(0, 1);
        house.p.addSubstitute(31, 5, 1);
        due("digest() with another rate and a substitute", house.p.digest(), before);
        house.p.setHoliday(0, 0, true);
        due("digest() with a holiday in week 0", house.p.digest(), digestOf(house.p, 0, 0));
        CHECKS.holds("a holiday in week 0 changes the digest", house.p.digest() != before);
        house.p.setHoliday(0, 0, false);
        due("digest() without it", house.p.digest(), before);
        house.p.cover(1);
        due("digest() with a cover of one day", house.p.digest(), before + 31L * 31 * 31 * 31 * 31 * 31 * 31 * 31 * 31 * 31);
    }
}
