/** The edges of time and children, and of the promises 1 to 9, sentence by sentence. */
public final class ChildrenEdgesTest {
    private static final int BAD = House.BAD;
    private static final int FULL = House.FULL;
    private static final Checks CHECKS = new Checks();

    public static void main(String[] args) {
        callsOfOneObject();
        daysAndHours();
        limitsOfSpans();
        hoursOfSpans();
        weeksAndMonths();
        numbersOfChildren();
        aNewChild();
        bookedHoursAndPresence();
        ageGroups();
        aNewMonth();
        aNewObject();
        addChild();
        removeChildAndChildren();
        askAChild();
        bookOutOfRange();
        bookAnAdmittedChild();
        CHECKS.end();
    }

    private static void due(String call, long got, long want) {
        CHECKS.due(call, got, want);
    }

    private static void callsOfOneObject() {
        CHECKS.sentence("An object is used for at most 512 calls after it has been made; what later calls answer is free.");
        House house = new House();
        for (int call = 1; call <= 512; call++) {
            due("call " + call + ": nextMonth()", house.p.nextMonth(), call);
        }
    }

    // ---- time

    private static void daysAndHours() {
        CHECKS.sentence("A week has 5 days, 0 to 4, and each day has 10 hours, 0 to 9.");
        House house = House.withStaff(1);
        house.addDaily(40, 0, 0, 10);
        house.p.admit();
        for (int day = -2; day <= 6; day++) {
            for (int hour = -2; hour <= 11; hour++) {
                boolean isThere = day >= 0 && day <= 4 && hour >= 0 && hour <= 9;
                String place = "(" + day + ", " + hour + ")";
                due("present" + place, house.p.present(day, hour), isThere ? 1 : BAD);
                due("need" + place, house.p.need(day, hour), isThere ? 1 : BAD);
                due("staff" + place, house.p.staff(day, hour), isThere ? 1 : BAD);
            }
        }
    }

    private static void limitsOfSpans() {
        CHECKS.sentence("A span of hours has a begin and an end with 0 <= begin <= end <= 10");
        House house = new House();
        house.p.addChild(40, 0);
        house.p.addEducator();
        for (int begin = -2; begin <= 12; begin++) {
            for (int end = -2; end <= 12; end++) {
                boolean isSpan = 0 <= begin && begin <= end && end <= 10;
                String span = begin + ", " + end + ")";
                due("book(0, 4, " + span, house.p.book(0, 4, begin, end), isSpan ? end - begin : BAD);
                due("work(0, 4, " + span, house.p.work(0, 4, begin, end), isSpan ? end - begin : BAD);
            }
        }
    }

    private static void hoursOfSpans() {
        CHECKS.sentence("it consists of the hours from begin to end - 1 and is empty if begin equals end.");
        for (int begin = 0; begin <= 10; begin++) {
            for (int end = begin; end <= 10; end++) {
                int day = (begin + end) % 5;
                House house = new House();
                house.p.addEducator();
                house.p.work(0, day, begin, end);
                house.p.addChild(40, 0);
                house.p.book(0, day, begin, end);
                due("admit() of " + begin + " to " + end, house.p.admit(), begin < end ? 1 : 0);
                due("hours(0)", house.p.hours(0), end - begin);
                for (int hour = 0; hour < 50; hour++) {
                    boolean isIn = hour / 10 == day && begin <= hour % 10 && hour % 10 < end;
                    String place = "(" + hour / 10 + ", " + hour % 10 + ") of " + begin + " to " + end;
                    due("present" + place, house.p.present(hour / 10, hour % 10), isIn ? 1 : 0);
                    due("staff" + place, house.p.staff(hour / 10, hour % 10), isIn ? 1 : 0);
                }
            }
        }
    }

    private static void weeksAndMonths() {
        CHECKS.sentence("A year has 52 weeks, 0 to 51.");
        House house = new House();
        house.p.addEducator();
        for (int week = -2; week <= 53; week++) {
            boolean isThere = week >= 0 && week <= 51;
            due("setHoliday(0, " + week + ", true)", house.p.setHoliday(0, week, true), isThere ? week + 1 : BAD);
            due("shortage(" + week + ", 4)", house.p.shortage(week, 4), isThere ? 0 : BAD);
            due("cover(" + week + ")", house.p.cover(week), isThere ? 0 : BAD);
        }

        CHECKS.sentence("All weeks have the same booked hours and the same working hours; they differ in the holidays only.");
        house = House.withStaff(1);
        house.add(40, 0, 2, 0, 1);
        house.p.admit();
        house.p.setHoliday(0, 17, true);
        for (int week = 0; week < 52; week++) {
            due("shortage(" + week + ", 2)", house.p.shortage(week, 2), week == 17 ? 1 : 0);
        }
        house.p.work(0, 2, 1, 10);
        for (int week = 0; week < 52; week++) {
            due("shortage(" + week + ", 2)", house.p.shortage(week, 2), 1);
            due("shortage(" + week + ", 1)", house.p.shortage(week, 1), 0);
        }

        CHECKS.sentence("Months are counted; the first month is month 0.");
        due("the first nextMonth()", new House().p.nextMonth(), 1);
    }

    // ---- children

    private static void numbersOfChildren() {
        CHECKS.sentence("There are at most 24 children (initially none).");
        House house = new House();
        due("children()", house.p.children(), 0);
        for (int count = 0; count < 24; count++) {
            due("children()", house.p.children(), count);
            due("addChild(50, 1)", house.p.addChild(50, 1), count);
        }
        due("addChild(50, 1), the 25th", house.p.addChild(50, 1), FULL);
        due("children()", house.p.children(), 24);

        CHECKS.sentence("A child has a number from 0 to 23, an age in months, a family from 0 to 11");
        for (int child = -2; child <= 25; child++) {
            due("age(" + child + ")", house.p.age(child), child >= 0 && child <= 23 ? 50 : BAD);
        }
        for (int family = -2; family <= 13; family++) {
            boolean isThere = family >= 0 && family <= 11;
            due("addChild(50, " + family + ")", new House().p.addChild(50, family), isThere ? 0 : BAD);
        }
        due("families 0 and 11 are two", isSibling(0, 11), 0);
        due("family 11 is one", isSibling(11, 11), 25);

        CHECKS.sentence("A new child gets the smallest number that no child has");
        house.p.removeChild(23);
        house.p.removeChild(11);
        house.p.removeChild(0);
        due("addChild(50, 1)", house.p.addChild(50, 1), 0);
        due("addChild(50, 1)", house.p.addChild(50, 1), 11);
        due("addChild(50, 1)", house.p.addChild(50, 1), 23);
        due("addChild(50, 1), the 25th", house.p.addChild(50, 1), FULL);
    }

    /** The points of a child without hours beside an admitted one. */
    private static int isSibling(int family, int otherFamily) {
        House house = House.withStaff(1);
        house.add(40, family, 0, 0, 1);
        house.p.admit();
        return house.p.points(house.p.addChild(40, otherFamily));
    }

    private static void aNewChild() {
        CHECKS.sentence("it is waiting, it has waited 0 months, and its spans are empty.");
        House house = House.withStaff(1);
        house.addDaily(70, 3, 0, 10);
        house.p.admit();
        house.addDaily(70, 4, 0, 10);
        house.months(3);
        house.p.removeChild(0);
        house.p.removeChild(1);
        for (int child = 0; child < 3; child++) {
            due("addChild(20, 3)", house.p.addChild(20, 3), child);
            due("isAdmitted(" + child + ")", house.p.isAdmitted(child), 0);
            due("waited(" + child + ")", house.p.waited(child), 0);
            due("hours(" + child + ")", house.p.hours(child), 0);
            due("points(" + child + ")", house.p.points(child), 0);
            due("age(" + child + ")", house.p.age(child), 20);
        }
        for (int day = 0; day < 5; day++) {
            due("one hour on day " + day + " is all that is booked", house.p.book(1, day, 9, 10), day + 1);
        }
    }

    private static void bookedHoursAndPresence() {
        CHECKS.sentence("The booked hours of a child are the hours of its spans on all 5 days");
        House house = new House();
        house.p.addChild(40, 0);
        due("hours(0)", house.p.hours(0), 0);
        for (int day = 0; day < 5; day++) {
            house.p.book(0, day, 0, 10);
            due("hours(0)", house.p.hours(0), 10 * day + 10);
        }
        for (int day = 0; day < 5; day++) {
            house.p.book(0, day, 10, 10);
            due("hours(0)", house.p.hours(0), 40 - 10 * day);
        }

        CHECKS.sentence("it is present in an hour of a day if it is admitted and the hour belongs to its span on that day.");
        house = House.withStaff(1);
        house.add(40, 0, 3, 4, 6);
        due("present(3, 4) of a waiting child", house.p.present(3, 4), 0);
        house.p.admit();
        int[] present = {0, 1, 1, 0};
        for (int hour = 3; hour <= 6; hour++) {
            due("present(3, " + hour + ")", house.p.present(3, hour), present[hour - 3]);
            due("present(2, " + hour + ")", house.p.present(2, hour), 0);
            due("present(4, " + hour + ")", house.p.present(4, hour), 0);
        }
        house.p.release(0);
        due("present(3, 4) of a released child", house.p.present(3, 4), 0);
    }

    private static void ageGroups() {
        CHECKS.sentence("A child is in age group 0 if its age is less than 24 months, in age group 1 if its age is from 24 to 35 months, and in age group 2 otherwise.");
        int[] fees = {4 * 11, 4 * 13, 4 * 17};
        int[] needs = {3, 2, 1};
        for (int age = 3; age <= 77; age++) {
            House house = houseOfThree(age);
            int group = age <= 23 ? 0 : age <= 35 ? 1 : 2;
            due("fee(0) at " + age, house.p.fee(0), fees[group]);
            due("need(0, 0) at " + age, house.p.need(0, 0), needs[group]);
        }
        House house = houseOfThree(22);
        for (int age = 22; age <= 77; age++) {
            int group = age <= 23 ? 0 : age <= 35 ? 1 : 2;
            due("fee(0) when it has become " + age, house.p.fee(0), fees[group]);
            due("need(0, 0) when they have become " + age, house.p.need(0, 0), needs[group]);
            house.p.nextMonth();
        }
    }

    /** Three admitted children of an age; each age group has a rate and a need of its own. */
    private static House houseOfThree(int age) {
        House house = House.withStaff(3);
        house.p.setRate(0, 11);
        house.p.setRate(1, 13);
        house.p.setRate(2, 17);
        house.p.setRatio(0, 1);
        house.p.setRatio(1, 2);
        house.p.setRatio(2, 3);
        for (int family = 0; family < 3; family++) {
            house.add(age, family, 0, 0, 1);
        }
        house.p.admit();
        return house;
    }

    private static void aNewMonth() {
        CHECKS.sentence("When a new month begins, the age of each child increases by 1, each waiting child has waited 1 month more, and then each child whose age is 78 months is removed.");
        House house = House.withStaff(1);
        house.add(75, 0, 0, 0, 1);
        house.add(75, 1, 0, 1, 2);
        due("admit()", house.p.admit(), 2);
        house.p.addChild(75, 0);
        house.p.addChild(3, 0);
        for (int month = 1; month <= 2; month++) {
            due("nextMonth()", house.p.nextMonth(), month);
            due("age(0), admitted", house.p.age(0), 75 + month);
            due("age(2), waiting", house.p.age(2), 75 + month);
            due("age(3), waiting", house.p.age(3), 3 + month);
            due("waited(0)", house.p.waited(0), House.STATE);
            due("waited(2)", house.p.waited(2), month);
            due("waited(3)", house.p.waited(3), month);
            due("children()", house.p.children(), 4);
        }
        due("points(3) beside its admitted sibling", house.p.points(3), 45);
        due("nextMonth()", house.p.nextMonth(), 3);
        due("children() after the 78th month of three", house.p.children(), 1);
        for (int child = 0; child < 3; child++) {
            due("age(" + child + ")", house.p.age(child), BAD);
        }
        due("points(3) without its sibling", house.p.points(3), 30);
        due("present(0, 0)", house.p.present(0, 0), 0);
        due("income()", house.p.income(), 0);
        due("waiting(0)", house.p.waiting(0), 3);
        due("waiting(1)", house.p.waiting(1), House.NONE);
        house.months(71);
        due("age(3) before its last month ends", house.p.age(3), 77);
        due("waited(3), as long as can be", house.p.waited(3), 74);
        house.p.nextMonth();
        due("age(3)", house.p.age(3), BAD);
        due("children()", house.p.children(), 0);

        CHECKS.sentence("Returns the number of the new month.");
        due("nextMonth() of an empty house", house.p.nextMonth(), 76);
    }

    // ---- promises 1 to 9

    private static void aNewObject() {
        CHECKS.sentence("Creates a kindergarten without children, educators and substitutes, in month 0.");
        House house = new House();
        due("children()", house.p.children(), 0);
        due("educators()", house.p.educators(), 0);
        for (int number = 0; number < 24; number++) {
            due("isAdmitted(" + number + ")", house.p.isAdmitted(number), BAD);
            due("removeEducator(" + number + ")", house.p.removeEducator(number), BAD);
        }
        due("waiting(0)", house.p.waiting(0), House.NONE);
        due("admit()", house.p.admit(), 0);
        due("clearText()", house.p.clearText(), 0);
        due("addSubstitute(1, 1, 1)", house.p.addSubstitute(1, 1, 1), 0);
        due("nextMonth()", house.p.nextMonth(), 1);
    }

    private static void addChild() {
        CHECKS.sentence("`age`: its age in months, 3 to 77");
        for (int age = -1; age <= 80; age++) {
            House house = new House();
            boolean isRight = age >= 3 && age <= 77;
            due("addChild(" + age + ", 0)", house.p.addChild(age, 0), isRight ? 0 : BAD);
            due("children()", house.p.children(), isRight ? 1 : 0);
            due("age(0)", house.p.age(0), isRight ? age : BAD);
        }

        CHECKS.sentence("Returns its number; BAD if an argument is out of range; FULL if there are 24 children.");
        House house = new House();
        for (int age : House.outside(3, 77)) {
            due("addChild(" + age + ", 0)", house.p.addChild(age, 0), BAD);
            due("addChild(" + age + ", 12)", house.p.addChild(age, 12), BAD);
        }
        for (int family : House.outside(0, 11)) {
            due("addChild(30, " + family + ")", house.p.addChild(30, family), BAD);
        }
        for (int child = 0; child < 24; child++) {
            due("addChild(77, 11)", house.p.addChild(77, 11), child);
        }
        due("addChild(3, 0) to 24", house.p.addChild(3, 0), FULL);
        due("BAD before FULL: age", house.p.addChild(78, 0), BAD);
        due("BAD before FULL: family", house.p.addChild(3, 12), BAD);
        due("removeChild(13)", house.p.removeChild(13), 23);
        due("addChild(3, 0) to 23", house.p.addChild(3, 0), 13);
        due("addChild(3, 0) to 24", house.p.addChild(3, 0), FULL);
        house.p.nextMonth();
        due("children() when 23 have left", house.p.children(), 1);
        due("addChild(3, 0) to 1", house.p.addChild(3, 0), 0);
    }

    private static void removeChildAndChildren() {
        CHECKS.sentence("Returns how many children are left; BAD if there is no such child.");
        House house = House.withStaff(1);
        house.add(40, 0, 0, 0, 1);
        house.p.admit();
        house.p.addChild(40, 0);
        for (int wrong : new int[] {-1, 2, 23, 24, House.LOWEST, House.HIGHEST}) {
            due("removeChild(" + wrong + ")", house.p.removeChild(wrong), BAD);
        }
        due("removeChild(0), admitted", house.p.removeChild(0), 1);
        due("removeChild(0) again", house.p.removeChild(0), BAD);
        due("removeChild(1), waiting", house.p.removeChild(1), 0);
        due("removeChild(1) again", house.p.removeChild(1), BAD);
        house = new House();
        for (int child = 0; child < 24; child++) {
            house.p.addChild(40, 0);
        }
        for (int child = 23; child >= 0; child--) {
            due("removeChild(" + child + ")", house.p.removeChild(child), child);
        }

        CHECKS.sentence("Returns how many children there are, waiting or admitted.");
        house = House.withStaff(1);
        due("children()", house.p.children(), 0);
        house.add(40, 0, 0, 0, 1);
        due("children() with a waiting child", house.p.children(), 1);
        house.p.admit();
        due("children() with an admitted child", house.p.children(), 1);
        house.p.addChild(40, 0);
        due("children() with both", house.p.children(), 2);
    }

    private static void askAChild() {
        House house = House.withStaff(1);
        house.addDaily(3, 0, 0, 10);
        house.p.admit();
        house.p.addChild(77, 11);
        int[] wrong = {-1, 2, 23, 24, House.LOWEST, House.HIGHEST};
        CHECKS.sentence("Returns its age in months; BAD if there is no such child.");
        due("age(0)", house.p.age(0), 3);
        due("age(1)", house.p.age(1), 77);
        for (int child : wrong) {
            due("age(" + child + ")", house.p.age(child), BAD);
        }
        CHECKS.sentence("Returns 1 if it is admitted, 0 if it is waiting; BAD if there is no such child.");
        due("isAdmitted(0)", house.p.isAdmitted(0), 1);
        due("isAdmitted(1)", house.p.isAdmitted(1), 0);
        for (int child : wrong) {
            due("isAdmitted(" + child + ")", house.p.isAdmitted(child), BAD);
        }
        CHECKS.sentence("Returns the number of its booked hours; BAD if there is no such child.");
        due("hours(0)", house.p.hours(0), 50);
        due("hours(1)", house.p.hours(1), 0);
        for (int child : wrong) {
            due("hours(" + child + ")", house.p.hours(child), BAD);
        }
    }

    private static void bookOutOfRange() {
        CHECKS.sentence("Sets the span of booked hours of a child on a day, in place of the one it had.");
        House house = new House();
        house.p.addChild(40, 0);
        house.p.addChild(40, 0);
        due("book(0, 0, 0, 10)", house.p.book(0, 0, 0, 10), 10);
        due("book(0, 4, 0, 10)", house.p.book(0, 4, 0, 10), 20);
        due("book(0, 0, 9, 10)", house.p.book(0, 0, 9, 10), 11);
        due("book(0, 4, 5, 5)", house.p.book(0, 4, 5, 5), 1);
        due("hours(1) of the other child", house.p.hours(1), 0);

        CHECKS.sentence("BAD if there is no such child, or day, begin or end is out of range");
        for (int child : new int[] {-1, 2, 23, 24, House.LOWEST, House.HIGHEST}) {
            due("book(" + child + ", 0, 0, 1)", house.p.book(child, 0, 0, 1), BAD);
        }
        for (int day : House.outside(0, 4)) {
            due("book(0, " + day + ", 0, 1)", house.p.book(0, day, 0, 1), BAD);
        }
        for (int begin : House.outside(0, 10)) {
            due("book(0, 0, " + begin + ", 10)", house.p.book(0, 0, begin, 10), BAD);
            due("book(0, 0, " + begin + ", " + begin + ")", house.p.book(0, 0, begin, begin), BAD);
        }
        for (int end : House.outside(3, 10)) {
            due("book(0, 0, 3, " + end + ")", house.p.book(0, 0, 3, end), BAD);
        }
        due("hours(0)", house.p.hours(0), 1);
    }

    private static void bookAnAdmittedChild() {
        CHECKS.sentence("FULL if the child is admitted, and at least one hour of the new span that does not belong to the span before would not be safe with the child.");
        House house = new House();
        house.p.addEducator();
        house.p.work(0, 2, 3, 7);
        house.add(40, 0, 2, 4, 6);
        due("book(0, 2, 0, 10) of a waiting child", house.p.book(0, 2, 0, 10), 10);
        house.p.book(0, 2, 4, 6);
        due("admit()", house.p.admit(), 1);
        due("one hour before the staff", house.p.book(0, 2, 2, 6), FULL);
        due("one hour after the staff", house.p.book(0, 2, 4, 8), FULL);
        due("another span after the staff", house.p.book(0, 2, 7, 8), FULL);
        due("the same hours on another day", house.p.book(0, 3, 4, 6), FULL);
        due("hours(0) after what was refused", house.p.hours(0), 2);
        due("all hours of the staff", house.p.book(0, 2, 3, 7), 4);
        due("an empty span where there is no staff", house.p.book(0, 3, 0, 0), 4);
        due("BAD before FULL", house.p.book(0, 2, 2, 11), BAD);

        house.p.removeEducator(0);
        due("unsafeHours()", house.p.unsafeHours(), 4);
        due("the hours before, though they are unsafe", house.p.book(0, 2, 3, 7), 4);
        due("fewer of the hours before", house.p.book(0, 2, 4, 6), 2);
        due("an hour that was given up", house.p.book(0, 2, 3, 6), FULL);
        due("no hour", house.p.book(0, 2, 6, 6), 0);
        due("isAdmitted(0)", house.p.isAdmitted(0), 1);

        bookAtTheRoomLimit();
        bookAtTheNeed();
    }

    private static void bookAtTheRoomLimit() {
        House house = House.withStaff(2);
        house.add(40, 0, 0, 0, 1);
        house.add(40, 1, 0, 1, 2);
        house.add(40, 2, 0, 1, 2);
        house.p.admit();
        house.p.setRoomLimit(3);
        due("the third child in a room of 3", house.p.book(0, 0, 0, 2), 2);
        due("back", house.p.book(0, 0, 0, 1), 1);
        house.p.setRoomLimit(2);
        due("the third child in a room of 2", house.p.book(0, 0, 0, 2), FULL);
        due("a free hour behind a full one", house.p.book(0, 0, 2, 3), 1);
    }

    /** The child itself counts in its age group: 1/2 + 1/2 needs one educator, 1/2 + 1/1 two. */
    private static void bookAtTheNeed() {
        House house = House.withStaff(1);
        house.p.setRatio(2, 2);
        house.p.setRatio(0, 1);
        house.add(40, 0, 0, 0, 1);
        house.add(40, 1, 0, 5, 6);
        house.add(20, 2, 0, 9, 10);
        due("admit()", house.p.admit(), 3);
        due("two halves", house.p.book(1, 0, 0, 1), 1);
        due("back", house.p.book(1, 0, 5, 6), 1);
        due("a half and a whole", house.p.book(2, 0, 0, 1), FULL);
        house.addStaff();
        due("a half and a whole with two educators", house.p.book(2, 0, 0, 1), 1);
    }
}
