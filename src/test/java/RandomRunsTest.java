/**
 * Random runs of calls on the program and on the reference, answer by answer. The numbers come from
 * a fixed formula, so that each time the same runs are made.
 */
public final class RandomRunsTest {
    private static final int RUNS = 600;
    /** Nothing is promised after the 512th call, and a last step may make some twenty. */
    private static final int MOST_CALLS = 480;

    private final Checks checks;
    private final int run;
    private final KindergartenPlanner planner = new KindergartenPlanner();
    private final ReferencePlanner reference = new ReferencePlanner();
    private long state;
    private int calls = 0;

    private RandomRunsTest(Checks checks, int run) {
        this.checks = checks;
        this.run = run;
        this.state = 7919L * run + 17;
    }

    public static void main(String[] args) {
        Checks checks = new Checks();
        for (int run = 0; run < RUNS && checks.allRight(); run++) {
            new RandomRunsTest(checks, run).make();
        }
        checks.end();
    }

    private void make() {
        compareDigest();
        if (run % 4 != 0) {
            furnish();
        }
        while (calls < MOST_CALLS) {
            switch (run % 3 == 0 ? any(0, 5) : any(0, 7) % (2 + run % 5) + run % 2) {
                case 0:
                    changeChild();
                    break;
                case 1:
                    askChild();
                    break;
                case 2:
                    changeEducator();
                    break;
                case 3:
                    askHour();
                    break;
                case 4:
                    useCover();
                    break;
                default:
                    useText();
                    break;
            }
            if (any(0, 5) == 0) {
                compareDigest();
            }
        }
        compareDigest();
    }

    /** A house in which something can happen: children, educators and substitutes with hours. */
    private void furnish() {
        int kids = any(3, 24);
        for (int kid = 0; kid < kids; kid++) {
            add(any(3, 77), any(0, any(0, 11)));
            for (int day = 0; day < 5; day++) {
                if (any(0, 2) > 0) {
                    int begin = any(0, 5);
                    book(kid, day, begin, any(begin, 10));
                }
            }
        }
        int teachers = any(1, 8);
        for (int teacher = 0; teacher < teachers; teacher++) {
            answer("addEducator()", planner.addEducator(), reference.addEducator());
            for (int day = 0; day < 5; day++) {
                if (any(0, 4) > 0) {
                    work(teacher, day, any(0, 2), any(7, 10));
                }
            }
        }
        for (int substitute = any(0, 4); substitute > 0; substitute--) {
            substitute(any(0, 1) == 0 ? 31 : any(1, 31), any(1, 5), any(0, 3) == 0 ? any(1, 1000) : any(1, 3));
        }
        if (any(0, 3) == 0) {
            ratio(any(0, 2), any(1, 20));
        }
        answer("admit()", planner.admit(), reference.admit());
    }

    private void changeChild() {
        int child = mostly(0, 23);
        switch (any(0, 9)) {
            case 0:
            case 1:
                add(mostly(3, 77), mostly(0, any(0, 1) == 0 ? 11 : 2));
                break;
            case 2:
                answer("removeChild(" + child + ")", planner.removeChild(child), reference.removeChild(child));
                break;
            case 3:
            case 4:
            case 5:
                book(child, mostly(0, 4), mostly(0, 10), mostly(0, 10));
                break;
            case 6:
                if (any(0, 2) == 0) {
                    answer("nextMonth()", planner.nextMonth(), reference.nextMonth());
                }
                break;
            case 7:
            case 8:
                answer("admit()", planner.admit(), reference.admit());
                break;
            default:
                answer("release(" + child + ")", planner.release(child), reference.release(child));
                break;
        }
    }

    private void askChild() {
        int child = mostly(0, 23);
        switch (any(0, 9)) {
            case 0:
                answer("children()", planner.children(), reference.children());
                break;
            case 1:
                answer("age(" + child + ")", planner.age(child), reference.age(child));
                break;
            case 2:
                answer("isAdmitted(" + child + ")", planner.isAdmitted(child), reference.isAdmitted(child));
                break;
            case 3:
                answer("hours(" + child + ")", planner.hours(child), reference.hours(child));
                break;
            case 4:
                answer("waited(" + child + ")", planner.waited(child), reference.waited(child));
                break;
            case 5:
                answer("points(" + child + ")", planner.points(child), reference.points(child));
                break;
            case 6:
                answer("waiting(" + child + ")", planner.waiting(child), reference.waiting(child));
                break;
            case 7:
                answer("fee(" + child + ")", planner.fee(child), reference.fee(child));
                break;
            case 8:
                answer("income()", planner.income(), reference.income());
                break;
            default:
                answer("familyFeeIfAdmitted(" + child + ")", planner.familyFeeIfAdmitted(child),
                    reference.familyFeeIfAdmitted(child));
                break;
        }
    }

    private void changeEducator() {
        int educator = mostly(0, 7);
        switch (any(0, 7)) {
            case 0:
                answer("addEducator()", planner.addEducator(), reference.addEducator());
                break;
            case 1:
                answer("removeEducator(" + educator + ")", planner.removeEducator(educator),
                    reference.removeEducator(educator));
                break;
            case 2:
            case 3:
                work(educator, mostly(0, 4), mostly(0, 10), mostly(0, 10));
                break;
            case 4:
                holiday(educator, mostly(0, 51), any(0, 2) > 0);
                break;
            case 5:
                ratio(mostly(0, 2), mostly(1, 20));
                break;
            case 6:
                int limit = mostly(1, 24);
                answer("setRoomLimit(" + limit + ")", planner.setRoomLimit(limit), reference.setRoomLimit(limit));
                break;
            default:
                int group = mostly(0, 2);
                int cents = mostly(0, 5000);
                answer("setRate(" + group + ", " + cents + ")", planner.setRate(group, cents),
                    reference.setRate(group, cents));
                break;
        }
    }

    private void askHour() {
        int day = mostly(0, 4);
        int hour = mostly(0, 9);
        String place = "(" + day + ", " + hour + ")";
        switch (any(0, 5)) {
            case 0:
                answer("educators()", planner.educators(), reference.educators());
                break;
            case 1:
                answer("present" + place, planner.present(day, hour), reference.present(day, hour));
                break;
            case 2:
                answer("need" + place, planner.need(day, hour), reference.need(day, hour));
                break;
            case 3:
                answer("staff" + place, planner.staff(day, hour), reference.staff(day, hour));
                break;
            case 4:
                answer("unsafeHours()", planner.unsafeHours(), reference.unsafeHours());
                break;
            default:
                calls++;
                checks.due(at("load(" + day + ")"), planner.load(day), reference.load(day));
                break;
        }
    }

    private void useCover() {
        int week = mostly(0, any(0, 1) == 0 ? 51 : 3);
        int day = mostly(0, 4);
        switch (any(0, 7)) {
            case 0:
                substitute(mostly(1, 31), mostly(1, 5), mostly(1, any(0, 1) == 0 ? 2 : 1000));
                break;
            case 1:
                answer("shortage(" + week + ", " + day + ")", planner.shortage(week, day),
                    reference.shortage(week, day));
                break;
            case 2:
            case 3:
                answer("cover(" + week + ")", planner.cover(week), reference.cover(week));
                break;
            case 4:
                answer("coverOf(" + day + ")", planner.coverOf(day), reference.coverOf(day));
                break;
            case 5:
                int educator = mostly(0, 7);
                answer("cheapestHoliday(" + educator + ")", planner.cheapestHoliday(educator),
                    reference.cheapestHoliday(educator));
                break;
            default:
                holiday(any(0, 7), week, any(0, 3) > 0);
                break;
        }
    }

    private void useText() {
        int what = any(0, 19);
        if (what == 0) {
            answer("clearText()", planner.clearText(), reference.clearText());
        } else if (what < 4) {
            int child = mostly(0, any(0, 1) == 0 ? 23 : 3);
            answer("loadBookings(" + child + ")", planner.loadBookings(child), reference.loadBookings(child));
        } else if (what < 6) {
            typeSign(mostly(32, 126));
        } else if (any(0, 2) == 0) {
            typeSheet();
        } else {
            typeSign("01234abcdefghijk;".charAt(any(0, 16)));
        }
    }

    /** Types a sheet on an empty text; it may be cut short or have a wrong sign. */
    private void typeSheet() {
        answer("clearText()", planner.clearText(), reference.clearText());
        for (int day = any(0, 3); day < 5; day += any(1, 3)) {
            int begin = any(0, 9);
            typeSign('0' + day);
            typeSign('a' + begin);
            typeSign('a' + any(any(0, 9) == 0 ? 0 : begin + 1, 10));
            if (any(0, 9) > 0) {
                typeSign(any(0, 19) == 0 ? any(32, 126) : ';');
            }
        }
        int child = any(0, 5);
        answer("loadBookings(" + child + ")", planner.loadBookings(child), reference.loadBookings(child));
    }

    private void add(int age, int family) {
        answer("addChild(" + age + ", " + family + ")", planner.addChild(age, family),
            reference.addChild(age, family));
    }

    private void book(int child, int day, int begin, int end) {
        answer("book(" + child + ", " + day + ", " + begin + ", " + end + ")",
            planner.book(child, day, begin, end), reference.book(child, day, begin, end));
    }

    private void work(int educator, int day, int begin, int end) {
        answer("work(" + educator + ", " + day + ", " + begin + ", " + end + ")",
            planner.work(educator, day, begin, end), reference.work(educator, day, begin, end));
    }

    private void holiday(int educator, int week, boolean holiday) {
        answer("setHoliday(" + educator + ", " + week + ", " + holiday + ")",
            planner.setHoliday(educator, week, holiday), reference.setHoliday(educator, week, holiday));
    }

    private void ratio(int group, int ratio) {
        answer("setRatio(" + group + ", " + ratio + ")", planner.setRatio(group, ratio),
            reference.setRatio(group, ratio));
    }

    private void substitute(int days, int most, int wage) {
        answer("addSubstitute(" + days + ", " + most + ", " + wage + ")",
            planner.addSubstitute(days, most, wage), reference.addSubstitute(days, most, wage));
    }

    private void typeSign(int code) {
        answer("type(" + code + ")", planner.type(code), reference.type(code));
    }

    private void compareDigest() {
        answer("digest()", planner.digest(), reference.digest());
    }

    private void answer(String call, long got, long want) {
        calls++;
        checks.due(at(call), got, want);
    }

    private String at(String call) {
        return "run " + run + ", call " + calls + ": " + call;
    }

    /** A number from least to most. */
    private int any(int least, int most) {
        state = state * 6364136223846793005L + 1442695040888963407L;
        return least + (int) Math.floorMod(state >>> 33, (long) most - least + 1);
    }

    /** A number from least to most, now and then one outside of them. */
    private int mostly(int least, int most) {
        switch (any(0, 39)) {
            case 0:
                return least - 1;
            case 1:
                return most + 1;
            case 2:
                return any(0, 1) == 0 ? Integer.MIN_VALUE : Integer.MAX_VALUE;
            case 3:
                return least;
            case 4:
                return most;
            default:
                return any(least, most);
        }
    }
}
