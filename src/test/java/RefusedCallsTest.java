import java.util.ArrayList;
import java.util.List;

/**
 * Calls that answer an error code, and calls that only ask, change nothing: a house in which one of
 * them was made answers all later calls as its twin does, in which it was not made.
 */
public final class RefusedCallsTest {
    private static final int BAD = House.BAD;
    private static final int STATE = House.STATE;
    private static final int FULL = House.FULL;
    private static final int NONE = House.NONE;
    private static final Checks CHECKS = new Checks();

    private interface Call {
        double on(KindergartenPlanner p);
    }

    private interface Builder {
        House build();
    }

    /** Asks for all that a house can tell; it may change the house, which is thrown away then. */
    private interface Probe {
        void ask(KindergartenPlanner p, List<Double> answers);
    }

    private static final Probe[] PROBES = {RefusedCallsTest::probeSettings, RefusedCallsTest::probeText,
        RefusedCallsTest::probeSpans, RefusedCallsTest::probeChildren, RefusedCallsTest::probeMonths,
        RefusedCallsTest::probeFirstHolidays, RefusedCallsTest::probeLastHolidays,
        RefusedCallsTest::probeStaff, RefusedCallsTest::probeCovers};

    private final Builder builder;
    private final List<List<Double>> untouched = new ArrayList<>();

    private RefusedCallsTest(Builder builder) {
        this.builder = builder;
        for (Probe probe : PROBES) {
            untouched.add(answersOf(probe, builder.build()));
        }
    }

    public static void main(String[] args) {
        CHECKS.sentence("A call that returns an error code changes nothing.");
        RefusedCallsTest crowded = new RefusedCallsTest(RefusedCallsTest::crowdedHouse);
        crowded.refuseChildrenOutOfRange();
        crowded.refuseEducatorsOutOfRange();
        crowded.refuseSettingsOutOfRange();
        crowded.refuseInACrowdedHouse();
        CHECKS.sentence("NONE is not an error code; it means that there is no such thing.");
        crowded.askOnly();
        RefusedCallsTest sparse = new RefusedCallsTest(RefusedCallsTest::sparseHouse);
        CHECKS.sentence("If several error codes apply to a call, BAD is returned before STATE, and STATE before FULL.");
        sparse.refuseInASparseHouse();
        sparse.askOnly();
        RefusedCallsTest empty = new RefusedCallsTest(House::new);
        CHECKS.sentence("BAD (an argument is out of its range, or there is no child, educator or substitute with the number)");
        empty.refuseInAnEmptyHouse();
        empty.askOnly();
        CHECKS.end();
    }

    private static List<Double> answersOf(Probe probe, House house) {
        List<Double> answers = new ArrayList<>();
        probe.ask(house.p, answers);
        return answers;
    }

    private void refused(String name, double want, Call call) {
        for (int i = 0; i < PROBES.length; i++) {
            House house = builder.build();
            CHECKS.due(name, call.on(house.p), want);
            CHECKS.holds("nothing is changed by " + name + ", as probe " + i + " tells,",
                answersOf(PROBES[i], house).equals(untouched.get(i)));
        }
    }

    private void asked(String name, Call call) {
        for (int i = 0; i < PROBES.length; i++) {
            House house = builder.build();
            double answer = call.on(house.p);
            CHECKS.due(name + " again", call.on(house.p), answer);
            CHECKS.holds("nothing is changed by " + name + ", as probe " + i + " tells,",
                answersOf(PROBES[i], house).equals(untouched.get(i)));
        }
    }

    // ---- houses

    /** All children, educators, substitutes and characters that there can be. */
    private static House crowdedHouse() {
        House house = new House();
        KindergartenPlanner p = house.p;
        p.setRoomLimit(9);
        p.setRatio(0, 3);
        p.setRate(1, 777);
        for (int educator = 0; educator < 8; educator++) {
            p.addEducator();
            p.work(educator, educator % 5, educator % 3, 7 + educator % 4);
            p.work(educator, 3, 0, 10);
            p.setHoliday(educator, 3 + educator % 3, true);
        }
        for (int child = 0; child < 24; child++) {
            p.addChild(10 + 7 * child % 60, child * child % 12);
            if (child != 20) {
                p.book(child, 3, child % 5, 5 + child % 6);
            }
        }
        p.nextMonth();
        p.admit();
        p.book(23, 0, 2, 9);
        for (int substitute = 0; substitute < 4; substitute++) {
            p.addSubstitute(31 - substitute, 2 + substitute % 2, 5 + 3 * substitute);
        }
        p.cover(4);
        house.type("0ab;1ac;3dk;");
        while (p.type('x') != FULL) {
            continue;
        }
        return house;
    }

    /** An admitted child whose sheet is refused, two that wait, one educator, no substitute. */
    private static House sparseHouse() {
        House house = new House();
        KindergartenPlanner p = house.p;
        p.addEducator();
        p.work(0, 0, 1, 5);
        p.setHoliday(0, 5, true);
        house.add(40, 2, 0, 1, 4);
        p.admit();
        house.add(50, 2, 1, 0, 9);
        p.addChild(3, 5);
        p.nextMonth();
        house.type("0bd;2ak;");
        return house;
    }

    // ---- refused calls

    private void refuseChildrenOutOfRange() {
        for (int child : House.outside(0, 23)) {
            refused("removeChild(" + child + ")", BAD, p -> p.removeChild(child));
            refused("age(" + child + ")", BAD, p -> p.age(child));
            refused("isAdmitted(" + child + ")", BAD, p -> p.isAdmitted(child));
            refused("hours(" + child + ")", BAD, p -> p.hours(child));
            refused("book(" + child + ", 0, 0, 1)", BAD, p -> p.book(child, 0, 0, 1));
            refused("waited(" + child + ")", BAD, p -> p.waited(child));
            refused("points(" + child + ")", BAD, p -> p.points(child));
            refused("release(" + child + ")", BAD, p -> p.release(child));
            refused("fee(" + child + ")", BAD, p -> p.fee(child));
            refused("familyFeeIfAdmitted(" + child + ")", BAD, p -> p.familyFeeIfAdmitted(child));
            refused("loadBookings(" + child + ")", BAD, p -> p.loadBookings(child));
        }
        for (int age : House.outside(3, 77)) {
            refused("addChild(" + age + ", 0)", BAD, p -> p.addChild(age, 0));
        }
        for (int family : House.outside(0, 11)) {
            refused("addChild(3, " + family + ")", BAD, p -> p.addChild(3, family));
        }
        refused("waiting(-1)", BAD, p -> p.waiting(-1));
        refused("waiting(LOWEST)", BAD, p -> p.waiting(House.LOWEST));
    }

    private void refuseEducatorsOutOfRange() {
        for (int educator : House.outside(0, 7)) {
            refused("removeEducator(" + educator + ")", BAD, p -> p.removeEducator(educator));
            refused("work(" + educator + ", 0, 0, 1)", BAD, p -> p.work(educator, 0, 0, 1));
            refused("setHoliday(" + educator + ", 9, true)", BAD, p -> p.setHoliday(educator, 9, true));
            refused("cheapestHoliday(" + educator + ")", BAD, p -> p.cheapestHoliday(educator));
        }
        for (int day : House.outside(0, 4)) {
            refused("book(0, " + day + ", 0, 1)", BAD, p -> p.book(0, day, 0, 1));
            refused("work(0, " + day + ", 0, 1)", BAD, p -> p.work(0, day, 0, 1));
            refused("present(" + day + ", 0)", BAD, p -> p.present(day, 0));
            refused("need(" + day + ", 0)", BAD, p -> p.need(day, 0));
            refused("staff(" + day + ", 0)", BAD, p -> p.staff(day, 0));
            refused("load(" + day + ")", -1.0, p -> p.load(day));
            refused("shortage(0, " + day + ")", BAD, p -> p.shortage(0, day));
            refused("coverOf(" + day + ")", BAD, p -> p.coverOf(day));
        }
        for (int hour : House.outside(0, 10)) {
            refused("book(0, 0, " + hour + ", 10)", BAD, p -> p.book(0, 0, hour, 10));
            refused("book(0, 0, 0, " + hour + ")", BAD, p -> p.book(0, 0, 0, hour));
            refused("work(0, 0, " + hour + ", 10)", BAD, p -> p.work(0, 0, hour, 10));
            refused("work(0, 0, 0, " + hour + ")", BAD, p -> p.work(0, 0, 0, hour));
        }
        refused("book(0, 3, 6, 5)", BAD, p -> p.book(0, 3, 6, 5));
        refused("work(0, 3, 6, 5)", BAD, p -> p.work(0, 3, 6, 5));
        for (int hour : House.outside(0, 9)) {
            refused("present(0, " + hour + ")", BAD, p -> p.present(0, hour));
            refused("need(0, " + hour + ")", BAD, p -> p.need(0, hour));
            refused("staff(0, " + hour + ")", BAD, p -> p.staff(0, hour));
        }
    }

    private void refuseSettingsOutOfRange() {
        for (int week : House.outside(0, 51)) {
            refused("setHoliday(0, " + week + ", true)", BAD, p -> p.setHoliday(0, week, true));
            refused("setHoliday(0, " + week + ", false)", BAD, p -> p.setHoliday(0, week, false));
            refused("shortage(" + week + ", 0)", BAD, p -> p.shortage(week, 0));
            refused("cover(" + week + ")", BAD, p -> p.cover(week));
        }
        for (int group : House.outside(0, 2)) {
            refused("setRatio(" + group + ", 5)", BAD, p -> p.setRatio(group, 5));
            refused("setRate(" + group + ", 5)", BAD, p -> p.setRate(group, 5));
        }
        for (int group = 0; group < 3; group++) {
            int one = group;
            for (int ratio : House.outside(1, 20)) {
                refused("setRatio(" + one + ", " + ratio + ")", BAD, p -> p.setRatio(one, ratio));
            }
            for (int cents : House.outside(0, 5000)) {
                refused("setRate(" + one + ", " + cents + ")", BAD, p -> p.setRate(one, cents));
            }
        }
        for (int limit : House.outside(1, 24)) {
            refused("setRoomLimit(" + limit + ")", BAD, p -> p.setRoomLimit(limit));
        }
        for (int code : House.outside(32, 126)) {
            refused("type(" + code + ")", BAD, p -> p.type(code));
        }
        for (int days : House.outside(1, 31)) {
            refused("addSubstitute(" + days + ", 1, 1)", BAD, p -> p.addSubstitute(days, 1, 1));
        }
        for (int most : House.outside(1, 5)) {
            refused("addSubstitute(1, " + most + ", 1)", BAD, p -> p.addSubstitute(1, most, 1));
        }
        for (int wage : House.outside(1, 1000)) {
            refused("addSubstitute(1, 1, " + wage + ")", BAD, p -> p.addSubstitute(1, 1, wage));
        }
    }

    private void refuseInACrowdedHouse() {
        KindergartenPlanner p = builder.build().p;
        int admitted = 0;
        for (int child = 0; child < 24; child++) {
            int one = child;
            boolean isAdmitted = p.isAdmitted(one) == 1;
            admitted += isAdmitted ? 1 : 0;
            if (isAdmitted) {
                refused("waited(" + one + "), admitted", STATE, x -> x.waited(one));
                refused("points(" + one + "), admitted", STATE, x -> x.points(one));
                refused("familyFeeIfAdmitted(" + one + "), admitted", STATE, x -> x.familyFeeIfAdmitted(one));
                refused("book(" + one + ", 1, 9, 10) without staff", FULL, x -> x.book(one, 1, 9, 10));
            } else {
                refused("fee(" + one + "), waiting", STATE, x -> x.fee(one));
                refused("release(" + one + "), waiting", STATE, x -> x.release(one));
            }
            refused("loadBookings(" + one + ") with a fault", -22, x -> x.loadBookings(one));
        }
        CHECKS.holds("some children are admitted, and some wait", admitted > 3 && admitted < 21);
        refused("addChild(3, 0) of a 25th", FULL, x -> x.addChild(3, 0));
        refused("addEducator() of a ninth", FULL, x -> x.addEducator());
        refused("addSubstitute(31, 5, 1) of a fifth", FULL, x -> x.addSubstitute(31, 5, 1));
        refused("type(59) behind 60", FULL, x -> x.type(59));
        refused("admit() when nobody can be admitted", 0, x -> x.admit());
    }

    private void refuseInASparseHouse() {
        refused("loadBookings(0) without staff", FULL, p -> p.loadBookings(0));
        refused("loadBookings(3) of a text without fault", BAD, p -> p.loadBookings(3));
        refused("book(0, 0, 1, 6) without staff", FULL, p -> p.book(0, 0, 1, 6));
        refused("book(0, 5, 1, 6) without staff", BAD, p -> p.book(0, 5, 1, 6));
        refused("book(0, 0, 0, 11) without staff", BAD, p -> p.book(0, 0, 0, 11));
        refused("cover(5) without substitutes", STATE, p -> p.cover(5));
        refused("cover(52) without substitutes", BAD, p -> p.cover(52));
        refused("fee(1), waiting", STATE, p -> p.fee(1));
        refused("fee(3), not there", BAD, p -> p.fee(3));
        refused("release(2), waiting", STATE, p -> p.release(2));
        refused("release(3), not there", BAD, p -> p.release(3));
        refused("waited(0), admitted", STATE, p -> p.waited(0));
        refused("points(0), admitted", STATE, p -> p.points(0));
        refused("familyFeeIfAdmitted(0), admitted", STATE, p -> p.familyFeeIfAdmitted(0));
        refused("removeEducator(1), not there", BAD, p -> p.removeEducator(1));
        refused("work(1, 0, 0, 1), not there", BAD, p -> p.work(1, 0, 0, 1));
        refused("setHoliday(1, 0, true), not there", BAD, p -> p.setHoliday(1, 0, true));
        refused("cheapestHoliday(1), not there", BAD, p -> p.cheapestHoliday(1));
        refused("waiting(2) of two", NONE, p -> p.waiting(2));
        refused("cheapestHoliday(0) without substitutes", NONE, p -> p.cheapestHoliday(0));
        refused("admit() when nobody can be admitted", 0, p -> p.admit());
    }

    private void refuseInAnEmptyHouse() {
        for (int number = 0; number < 24; number++) {
            int one = number;
            refused("removeChild(" + one + ")", BAD, p -> p.removeChild(one));
            refused("book(" + one + ", 0, 0, 1)", BAD, p -> p.book(one, 0, 0, 1));
            refused("release(" + one + ")", BAD, p -> p.release(one));
            refused("loadBookings(" + one + ")", BAD, p -> p.loadBookings(one));
            refused("removeEducator(" + one + ")", BAD, p -> p.removeEducator(one));
            refused("work(" + one + ", 0, 0, 1)", BAD, p -> p.work(one, 0, 0, 1));
            refused("setHoliday(" + one + ", 0, true)", BAD, p -> p.setHoliday(one, 0, true));
        }
        refused("admit()", 0, p -> p.admit());
        refused("clearText()", 0, p -> p.clearText());
        refused("waiting(0)", NONE, p -> p.waiting(0));
    }

    /** Calls that only ask, whatever they answer. */
    private void askOnly() {
        for (int number = 0; number < 24; number += 5) {
            int one = number;
            asked("age(" + one + ")", p -> p.age(one));
            asked("isAdmitted(" + one + ")", p -> p.isAdmitted(one));
            asked("hours(" + one + ")", p -> p.hours(one));
            asked("waited(" + one + ")", p -> p.waited(one));
            asked("points(" + one + ")", p -> p.points(one));
            asked("waiting(" + one + ")", p -> p.waiting(one));
            asked("fee(" + one + ")", p -> p.fee(one));
            asked("familyFeeIfAdmitted(" + one + ")", p -> p.familyFeeIfAdmitted(one));
        }
        for (int number = 0; number < 8; number++) {
            int one = number;
            asked("cheapestHoliday(" + one + ")", p -> p.cheapestHoliday(one));
            asked("present(3, " + one + ")", p -> p.present(3, one));
            asked("need(3, " + one + ")", p -> p.need(3, one));
            asked("staff(3, " + one + ")", p -> p.staff(3, one));
            asked("load(" + one + ")", p -> p.load(one));
            asked("shortage(4, " + one + ")", p -> p.shortage(4, one));
            asked("coverOf(" + one + ")", p -> p.coverOf(one));
        }
        asked("children()", p -> p.children());
        asked("educators()", p -> p.educators());
        asked("unsafeHours()", p -> p.unsafeHours());
        asked("income()", p -> p.income());
        asked("digest()", p -> p.digest());
    }

    // ---- probes

    private static void tell(List<Double> answers, long answer) {
        answers.add((double) (answer >> 32));
        answers.add((double) (int) answer);
    }

    private static void probeSettings(KindergartenPlanner p, List<Double> answers) {
        tell(answers, p.digest());
        for (int group = 0; group < 3; group++) {
            tell(answers, p.setRatio(group, 20));
            tell(answers, p.setRate(group, 1000));
        }
        tell(answers, p.setRoomLimit(24));
        tell(answers, p.addChild(3, 0));
        tell(answers, p.addEducator());
        tell(answers, p.addSubstitute(31, 5, 1));
        tell(answers, p.type('0'));
        tell(answers, p.digest());
    }

    private static void probeText(KindergartenPlanner p, List<Double> answers) {
        p.removeChild(23);
        int child = p.addChild(40, 11);
        tell(answers, p.loadBookings(child));
        tell(answers, p.digest());
        tell(answers, p.clearText());
        for (int length = 1; length < 10; length++) {
            tell(answers, p.type('0'));
            tell(answers, p.loadBookings(child));
        }
    }

    /** Admits all who can be admitted, and tells whose hours are gone with each of them. */
    private static void probeSpans(KindergartenPlanner p, List<Double> answers) {
        p.setRoomLimit(24);
        for (int group = 0; group < 3; group++) {
            p.setRatio(group, 20);
        }
        p.removeEducator(0);
        p.removeEducator(1);
        for (int more = 0; more < 2; more++) {
            int educator = p.addEducator();
            for (int day = 0; day < 5; day++) {
                tell(answers, p.work(educator, day, 0, 10));
            }
        }
        tell(answers, p.admit());
        for (int child = 0; child < 24; child++) {
            tell(answers, p.digest());
            tell(answers, p.removeChild(child));
        }
    }

    private static void probeChildren(KindergartenPlanner p, List<Double> answers) {
        for (int child = 0; child < 24; child++) {
            tell(answers, p.waiting(child));
            tell(answers, p.points(child));
            tell(answers, p.waited(child));
            tell(answers, p.familyFeeIfAdmitted(child));
        }
        for (int child = 0; child < 24; child++) {
            tell(answers, p.release(child));
            tell(answers, p.waited(child));
        }
        tell(answers, p.admit());
        tell(answers, p.digest());
    }

    private static void probeMonths(KindergartenPlanner p, List<Double> answers) {
        for (int month = 0; month < 75; month++) {
            tell(answers, p.nextMonth());
            tell(answers, p.digest());
        }
    }

    private static void probeFirstHolidays(KindergartenPlanner p, List<Double> answers) {
        probeHolidays(p, answers, 0, 4);
    }

    private static void probeLastHolidays(KindergartenPlanner p, List<Double> answers) {
        probeHolidays(p, answers, 4, 8);
    }

    private static void probeHolidays(KindergartenPlanner p, List<Double> answers, int first, int end) {
        for (int educator = first; educator < end; educator++) {
            for (int week = 0; week < 52; week++) {
                tell(answers, p.setHoliday(educator, week, true));
            }
        }
    }

    private static void probeStaff(KindergartenPlanner p, List<Double> answers) {
        for (int educator = 0; educator < 8; educator++) {
            tell(answers, p.removeEducator(educator));
            tell(answers, p.digest());
        }
    }

    /** Covers for more and more shortages, as the educators go. */
    private static void probeCovers(KindergartenPlanner p, List<Double> answers) {
        for (int educator = 0; educator < 8; educator++) {
            for (int week = 0; week < 6; week++) {
                tell(answers, p.cover(week));
                tell(answers, p.digest());
            }
            p.removeEducator(educator);
        }
        p.addSubstitute(1, 1, 1);
        for (int day = 0; day < 5; day++) {
            tell(answers, p.cover(5));
            tell(answers, p.coverOf(day));
        }
    }
}
