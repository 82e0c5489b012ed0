/** The edges of educators, ratios and safe hours, and of the promises 15 to 26, sentence by sentence. */
public final class EducatorsEdgesTest {
    private static final int BAD = House.BAD;
    private static final int FULL = House.FULL;
    private static final int[] NO_EDUCATORS = {-1, 2, 7, 8, House.LOWEST, House.HIGHEST};
    private static final Checks CHECKS = new Checks();

    public static void main(String[] args) {
        numbersOfEducators();
        aNewEducator();
        addAndRemove();
        work();
        setHoliday();
        ratios();
        needOfOneGroup();
        needOfAllGroups();
        roomLimit();
        staffOfAnHour();
        safeHours();
        childrenStayAdmitted();
        presentNeedAndStaff();
        unsafeHours();
        load();
        CHECKS.end();
    }

    private static void due(String call, long got, long want) {
        CHECKS.due(call, got, want);
    }

    private static void numbersOfEducators() {
        CHECKS.sentence("There are at most 8 educators (initially none).");
        House house = new House();
        for (int count = 0; count < 8; count++) {
            due("educators()", house.p.educators(), count);
            due("addEducator()", house.p.addEducator(), count);
        }
        due("addEducator() of a ninth", house.p.addEducator(), FULL);
        due("educators()", house.p.educators(), 8);

        CHECKS.sentence("An educator has a number from 0 to 7, for each day a span of working hours, and a set of holiday weeks.");
        for (int educator = -2; educator <= 9; educator++) {
            boolean isThere = educator >= 0 && educator <= 7;
            due("work(" + educator + ", 0, 0, 1)", house.p.work(educator, 0, 0, 1), isThere ? 1 : BAD);
            due("setHoliday(" + educator + ", 0, true)", house.p.setHoliday(educator, 0, true), isThere ? 1 : BAD);
        }

        CHECKS.sentence("A new educator gets the smallest number that no educator has");
        house.p.removeEducator(7);
        house.p.removeEducator(4);
        house.p.removeEducator(0);
        due("addEducator()", house.p.addEducator(), 0);
        due("addEducator()", house.p.addEducator(), 4);
        due("addEducator()", house.p.addEducator(), 7);
        due("addEducator() of a ninth", house.p.addEducator(), FULL);
    }

    private static void aNewEducator() {
        CHECKS.sentence("the spans are empty, and there are no holiday weeks.");
        House house = House.withStaff(1);
        house.addDaily(40, 0, 0, 10);
        house.p.admit();
        for (int week = 0; week < 52; week++) {
            house.p.setHoliday(0, week, true);
        }
        house.p.removeEducator(0);
        due("addEducator()", house.p.addEducator(), 0);
        for (int day = 0; day < 5; day++) {
            due("staff(" + day + ", 5)", house.p.staff(day, 5), 0);
            due("work(0, " + day + ", 0, 10)", house.p.work(0, day, 0, 10), 10 * day + 10);
        }
        for (int week = 0; week < 52; week++) {
            due("shortage(" + week + ", 0)", house.p.shortage(week, 0), 0);
        }
        due("setHoliday(0, 51, false)", house.p.setHoliday(0, 51, false), 0);
    }

    private static void addAndRemove() {
        CHECKS.sentence("Returns the number of the educator; FULL if there are 8 educators.");
        House house = new House();
        for (int number = 0; number < 8; number++) {
            due("addEducator()", house.p.addEducator(), number);
        }
        due("addEducator() to 8", house.p.addEducator(), FULL);
        due("removeEducator(5)", house.p.removeEducator(5), 7);
        due("addEducator() to 7", house.p.addEducator(), 5);
        due("addEducator() to 8", house.p.addEducator(), FULL);

        CHECKS.sentence("Returns how many educators there are.");
        due("educators() of none", new House().p.educators(), 0);
        due("educators() of as many as can be", house.p.educators(), 8);

        CHECKS.sentence("Removes an educator, whose number is free then.");
        house.p.work(5, 0, 0, 1);
        due("removeEducator(5)", house.p.removeEducator(5), 7);
        due("staff(0, 0)", house.p.staff(0, 0), 0);
        due("work(5, 0, 0, 1)", house.p.work(5, 0, 0, 1), BAD);
        due("addEducator()", house.p.addEducator(), 5);

        CHECKS.sentence("Returns how many educators are left; BAD if there is no such educator.");
        for (int educator : House.outside(0, 7)) {
            due("removeEducator(" + educator + ")", house.p.removeEducator(educator), BAD);
        }
        for (int educator = 7; educator >= 0; educator--) {
            due("removeEducator(" + educator + ")", house.p.removeEducator(educator), educator);
            due("removeEducator(" + educator + ") again", house.p.removeEducator(educator), BAD);
            due("educators()", house.p.educators(), educator);
        }
    }

    private static void work() {
        CHECKS.sentence("Sets the span of working hours of an educator on a day, in place of the one before.");
        House house = new House();
        house.p.addEducator();
        house.p.addEducator();
        due("work(0, 0, 0, 10)", house.p.work(0, 0, 0, 10), 10);
        due("work(0, 4, 0, 10)", house.p.work(0, 4, 0, 10), 20);
        due("work(0, 0, 9, 10)", house.p.work(0, 0, 9, 10), 11);
        due("staff(0, 8)", house.p.staff(0, 8), 0);
        due("staff(0, 9)", house.p.staff(0, 9), 1);
        due("work(0, 4, 0, 0)", house.p.work(0, 4, 0, 0), 1);
        due("staff(4, 0)", house.p.staff(4, 0), 0);
        due("work(0, 0, 10, 10)", house.p.work(0, 0, 10, 10), 0);

        CHECKS.sentence("Returns how many working hours the educator has on all days then; BAD if there is no such educator, or day, begin or end is out of range.");
        for (int day = 0; day < 5; day++) {
            due("work(0, " + day + ", 0, 10)", house.p.work(0, day, 0, 10), 10 * day + 10);
        }
        due("work(1, 0, 0, 1) of the other educator", house.p.work(1, 0, 0, 1), 1);
        for (int educator : NO_EDUCATORS) {
            due("work(" + educator + ", 0, 0, 1)", house.p.work(educator, 0, 0, 1), BAD);
        }
        for (int day : House.outside(0, 4)) {
            due("work(0, " + day + ", 0, 1)", house.p.work(0, day, 0, 1), BAD);
        }
        for (int begin : House.outside(0, 10)) {
            due("work(0, 0, " + begin + ", 10)", house.p.work(0, 0, begin, 10), BAD);
            due("work(0, 0, " + begin + ", " + begin + ")", house.p.work(0, 0, begin, begin), BAD);
        }
        for (int end : House.outside(3, 10)) {
            due("work(0, 0, 3, " + end + ")", house.p.work(0, 0, 3, end), BAD);
        }
        due("work(0, 0, 0, 0) after what was refused", house.p.work(0, 0, 0, 0), 40);
    }

    private static void setHoliday() {
        CHECKS.sentence("Returns how many holiday weeks the educator has then; BAD if there is no such educator or week is out of range.");
        House house = new House();
        house.p.addEducator();
        house.p.addEducator();
        due("setHoliday(0, 0, false) without holidays", house.p.setHoliday(0, 0, false), 0);
        for (int week = 0; week < 52; week++) {
            due("setHoliday(0, " + week + ", true)", house.p.setHoliday(0, week, true), week + 1);
            due("setHoliday(0, " + week + ", true) again", house.p.setHoliday(0, week, true), week + 1);
        }
        for (int educator : NO_EDUCATORS) {
            due("setHoliday(" + educator + ", 0, true)", house.p.setHoliday(educator, 0, true), BAD);
            due("setHoliday(" + educator + ", 0, false)", house.p.setHoliday(educator, 0, false), BAD);
        }
        for (int week : new int[] {-1, 52, 63, 64, -64, House.LOWEST, House.HIGHEST}) {
            due("setHoliday(1, " + week + ", true)", house.p.setHoliday(1, week, true), BAD);
            due("setHoliday(0, " + week + ", false)", house.p.setHoliday(0, week, false), BAD);
        }
        for (int week = 51; week >= 0; week--) {
            due("setHoliday(0, " + week + ", false)", house.p.setHoliday(0, week, false), week);
            due("setHoliday(0, " + week + ", false) again", house.p.setHoliday(0, week, false), week);
        }
        due("setHoliday(1, 51, true) of the other educator", house.p.setHoliday(1, 51, true), 1);
    }

    private static void ratios() {
        CHECKS.sentence("Each age group has a ratio from 1 to 20; the ratios of the age groups 0, 1 and 2 are 4, 6 and 10 at first.");
        House house = new House();
        int[] first = {4, 6, 10};
        for (int group = 0; group < 3; group++) {
            due("setRatio(" + group + ", 1)", house.p.setRatio(group, 1), first[group]);
        }

        CHECKS.sentence("Returns the previous ratio; BAD if an argument is out of range.");
        for (int ratio = -1; ratio <= 22; ratio++) {
            boolean isRight = ratio >= 1 && ratio <= 20;
            int before = isRight ? Math.max(1, ratio - 1) : BAD;
            for (int group = 0; group < 3; group++) {
                due("setRatio(" + group + ", " + ratio + ")", house.p.setRatio(group, ratio), before);
            }
        }
        for (int group : House.outside(0, 2)) {
            due("setRatio(" + group + ", 5)", house.p.setRatio(group, 5), BAD);
        }
        for (int ratio : House.outside(1, 20)) {
            due("setRatio(1, " + ratio + ")", house.p.setRatio(1, ratio), BAD);
        }
        for (int group = 0; group < 3; group++) {
            due("setRatio(" + group + ", 20) after what was refused", house.p.setRatio(group, 20), 20);
        }
    }

    private static final String NEED = "the need of the hour is the smallest whole number that is at least the exact value of c0 / r0 + c1 / r1 + c2 / r2, where r0, r1 and r2 are the ratios.";

    private static void needOfOneGroup() {
        CHECKS.sentence(NEED);
        int[] ages = {3, 24, 36};
        for (int group = 0; group < 3; group++) {
            House house = House.withStaff(8);
            house.p.setRatio(group, 20);
            house.p.setRoomLimit(24);
            due("need(0, 0) of nobody", house.p.need(0, 0), 0);
            for (int child = 0; child < 24; child++) {
                house.add(ages[group], 0, 0, 0, 1);
            }
            due("admit()", house.p.admit(), 24);
            for (int ratio = 1; ratio <= 20; ratio++) {
                house.p.setRatio(group, ratio);
                int need = 24 / ratio + (24 % ratio == 0 ? 0 : 1);
                due("need(0, 0) of 24 in group " + group + " at " + ratio, house.p.need(0, 0), need);
            }
            for (int left = 23; left >= 0; left--) {
                house.p.removeChild(left);
                int need = left == 0 ? 0 : left <= 20 ? 1 : 2;
                due("need(0, 0) of " + left + " in group " + group + " at 20", house.p.need(0, 0), need);
            }
        }
    }

    /** Sums that are whole, or as near to a whole number as these ratios allow. */
    private static void needOfAllGroups() {
        CHECKS.sentence(NEED);
        dueNeed(1, 1, 1, 3, 3, 3, 1);
        dueNeed(1, 1, 1, 2, 3, 6, 1);
        dueNeed(1, 1, 1, 2, 3, 5, 2);
        dueNeed(1, 1, 1, 2, 3, 7, 1);
        dueNeed(5, 3, 2, 10, 10, 10, 1);
        dueNeed(5, 3, 3, 10, 10, 10, 2);
        dueNeed(7, 1, 1, 10, 10, 5, 1);
        dueNeed(7, 7, 7, 7, 7, 7, 3);
        dueNeed(8, 7, 7, 7, 7, 7, 4);
        dueNeed(2, 5, 0, 20, 19, 17, 1);
        // The least that a sum can be above 1, at these ratios: 1 / (20 * 19 * 17).
        dueNeed(7, 9, 3, 20, 19, 17, 2);
        dueNeed(3, 9, 7, 17, 19, 20, 2);
        // Whole sums that divisions of doubles would answer a little too high.
        dueNeed(3, 7, 2, 2, 6, 6, 3);
        dueNeed(5, 3, 2, 3, 3, 6, 3);
        dueNeed(6, 5, 4, 6, 3, 12, 3);
        dueNeed(7, 7, 7, 2, 3, 6, 7);
        for (int a = 0; a <= 6; a++) {
            for (int b = 0; b <= 6; b++) {
                for (int c = 0; c <= 6; c++) {
                    dueNeed(a, b, c, 3, 4, 6, exactNeed(a, b, c, 3, 4, 6));
                    dueNeed(a, b, c, 7, 11, 13, exactNeed(a, b, c, 7, 11, 13));
                }
            }
        }
        dueNeed(8, 8, 8, 1, 1, 1, 24);
        dueNeed(8, 8, 8, 20, 20, 20, 2);
        dueNeed(1, 0, 0, 20, 1, 1, 1);
        dueNeed(0, 0, 1, 1, 1, 20, 1);
        dueNeed(0, 0, 0, 1, 1, 1, 0);
    }

    /** Counts upwards until the whole number is at least the sum, all times the denominators. */
    private static long exactNeed(long a, long b, long c, long r0, long r1, long r2) {
        long need = 0;
        while (need * r0 * r1 * r2 < a * r1 * r2 + b * r0 * r2 + c * r0 * r1) {
            need++;
        }
        return need;
    }

    private static void dueNeed(int c0, int c1, int c2, int r0, int r1, int r2, long want) {
        House house = House.withStaff(8);
        house.p.setRoomLimit(24);
        int[] ages = {23, 35, 36};
        int[] counts = {c0, c1, c2};
        for (int group = 0; group < 3; group++) {
            house.p.setRatio(group, 20);
            for (int child = 0; child < counts[group]; child++) {
                house.add(ages[group], 0, 3, 7, 8);
            }
        }
        due("admit()", house.p.admit(), c0 + c1 + c2);
        house.p.setRatio(0, r0);
        house.p.setRatio(1, r1);
        house.p.setRatio(2, r2);
        String sum = c0 + "/" + r0 + " + " + c1 + "/" + r1 + " + " + c2 + "/" + r2;
        due("need(3, 7) of " + sum, house.p.need(3, 7), want);
        due("unsafeHours() of " + sum, house.p.unsafeHours(), want > 8 ? 1 : 0);
    }

    private static void roomLimit() {
        CHECKS.sentence("There is a room limit from 1 to 24, initially 20.");
        due("setRoomLimit(1)", new House().p.setRoomLimit(1), 20);

        CHECKS.sentence("Returns the previous room limit; BAD if limit is out of range.");
        House house = new House();
        house.p.setRoomLimit(1);
        for (int limit = -1; limit <= 26; limit++) {
            boolean isRight = limit >= 1 && limit <= 24;
            int before = isRight ? Math.max(1, limit - 1) : BAD;
            due("setRoomLimit(" + limit + ")", house.p.setRoomLimit(limit), before);
        }
        for (int limit : House.outside(1, 24)) {
            due("setRoomLimit(" + limit + ")", house.p.setRoomLimit(limit), BAD);
        }
        due("setRoomLimit(24) after what was refused", house.p.setRoomLimit(24), 24);
    }

    private static void staffOfAnHour() {
        CHECKS.sentence("The staff of an hour of a day is the number of educators to whose span on that day the hour belongs, whether they have holidays or not.");
        House house = new House();
        for (int educator = 0; educator < 8; educator++) {
            house.p.addEducator();
            house.p.work(educator, 3, educator, educator + 3);
            house.p.setHoliday(educator, 0, educator % 2 == 0);
        }
        int[] staff = {1, 2, 3, 3, 3, 3, 3, 3, 2, 1};
        for (int hour = 0; hour < 10; hour++) {
            due("staff(3, " + hour + ")", house.p.staff(3, hour), staff[hour]);
            due("staff(2, " + hour + ")", house.p.staff(2, hour), 0);
            due("staff(4, " + hour + ")", house.p.staff(4, hour), 0);
        }
    }

    private static void safeHours() {
        CHECKS.sentence("An hour of a day is safe if at most as many children as the room limit are present, and the need is at most the staff.");
        House house = House.withStaff(2);
        house.p.setRatio(2, 2);
        for (int child = 0; child < 4; child++) {
            house.add(40, 0, 0, 0, 1);
        }
        due("admit()", house.p.admit(), 4);
        int[] unsafeByLimit = {1, 1, 1, 0, 0};
        for (int limit = 1; limit <= 5; limit++) {
            house.p.setRoomLimit(limit);
            due("unsafeHours() with 4 children and the room limit " + limit, house.p.unsafeHours(), unsafeByLimit[limit - 1]);
        }
        int[] unsafeByRatio = {1, 0, 0, 0};
        for (int ratio = 1; ratio <= 4; ratio++) {
            house.p.setRatio(2, ratio);
            due("unsafeHours() with 4 children at the ratio " + ratio, house.p.unsafeHours(), unsafeByRatio[ratio - 1]);
        }
        house = new House();
        due("unsafeHours() without children and staff", house.p.unsafeHours(), 0);
    }

    private static void childrenStayAdmitted() {
        CHECKS.sentence("Children stay admitted when an hour becomes unsafe, whatever the reason is.");
        House house = crowd();
        house.p.setRoomLimit(1);
        dueStillAdmitted("the room limit", house);
        house = crowd();
        house.p.setRatio(1, 1);
        dueStillAdmitted("a ratio", house);
        house = crowd();
        house.p.work(0, 0, 0, 0);
        dueStillAdmitted("working hours", house);
        house = crowd();
        house.p.removeEducator(0);
        dueStillAdmitted("an educator who goes", house);
        house = crowd();
        house.p.setRatio(2, 1);
        house.p.nextMonth();
        dueStillAdmitted("a new month", house);
    }

    /** Two admitted children of 35 months with one educator. */
    private static House crowd() {
        House house = House.withStaff(1);
        house.add(35, 0, 0, 0, 1);
        house.add(35, 1, 0, 0, 1);
        due("admit()", house.p.admit(), 2);
        due("unsafeHours() before", house.p.unsafeHours(), 0);
        return house;
    }

    private static void dueStillAdmitted(String reason, House house) {
        due("unsafeHours() by " + reason, house.p.unsafeHours(), 1);
        due("admit() then", house.p.admit(), 0);
        due("isAdmitted(0) then", house.p.isAdmitted(0), 1);
        due("isAdmitted(1) then", house.p.isAdmitted(1), 1);
        due("present(0, 0) then", house.p.present(0, 0), 2);
    }

    private static void presentNeedAndStaff() {
        House house = House.withStaff(8);
        house.p.setRoomLimit(24);
        house.p.setRatio(0, 3);
        for (int child = 0; child < 24; child++) {
            house.add(3, 0, 4, 9, 10);
        }
        due("admit()", house.p.admit(), 24);
        CHECKS.sentence("Returns their number; BAD if an argument is out of range.");
        due("present(4, 9), as many as can be", house.p.present(4, 9), 24);
        due("present(4, 8)", house.p.present(4, 8), 0);
        due("present(0, 0)", house.p.present(0, 0), 0);
        dueOutOfRange(house, 0);
        CHECKS.sentence("Returns the need; BAD if an argument is out of range.");
        due("need(4, 9)", house.p.need(4, 9), 8);
        due("need(4, 8)", house.p.need(4, 8), 0);
        dueOutOfRange(house, 1);
        CHECKS.sentence("Returns the number of educators; BAD if an argument is out of range.");
        due("staff(4, 9)", house.p.staff(4, 9), 8);
        due("staff(0, 0)", house.p.staff(0, 0), 8);
        dueOutOfRange(house, 2);
    }

    private static void dueOutOfRange(House house, int what) {
        for (int day : House.outside(0, 4)) {
            due(what + " of day " + day + ", hour 9", ask(house, what, day, 9), BAD);
            for (int hour : House.outside(0, 9)) {
                due(what + " of day " + day + ", hour " + hour, ask(house, what, day, hour), BAD);
            }
        }
        for (int hour : House.outside(0, 9)) {
            due(what + " of day 4, hour " + hour, ask(house, what, 4, hour), BAD);
        }
    }

    private static int ask(House house, int what, int day, int hour) {
        switch (what) {
            case 0:
                return house.p.present(day, hour);
            case 1:
                return house.p.need(day, hour);
            default:
                return house.p.staff(day, hour);
        }
    }

    private static void unsafeHours() {
        CHECKS.sentence("Returns how many hours of the week are not safe.");
        House house = House.withStaff(1);
        house.addDaily(40, 0, 0, 10);
        house.p.admit();
        due("unsafeHours(), none", house.p.unsafeHours(), 0);
        for (int day = 0; day < 5; day++) {
            house.p.work(0, day, 0, 9);
            due("unsafeHours(), the last hours", house.p.unsafeHours(), day + 1);
        }
        for (int day = 0; day < 5; day++) {
            house.p.work(0, day, 1, 9);
            due("unsafeHours(), the first and the last hours", house.p.unsafeHours(), day + 6);
        }
        house.p.removeEducator(0);
        due("unsafeHours(), all", house.p.unsafeHours(), 50);
        house.p.release(0);
        due("unsafeHours() without children", house.p.unsafeHours(), 0);
    }

    private static void load() {
        CHECKS.sentence("Returns the sum of the children who are present in the hours of the day, converted to double, divided by the sum of the staff of these hours, converted to double; 0.0 if the latter sum is 0; -1.0 if day is out of range.");
        House house = new House();
        for (int day = 0; day < 5; day++) {
            CHECKS.due("load(" + day + ") of an empty house", house.p.load(day), 0.0);
        }
        for (int day : House.outside(0, 4)) {
            CHECKS.due("load(" + day + ")", house.p.load(day), -1.0);
        }
        house.addStaff();
        house.p.setRoomLimit(24);
        for (int child = 0; child < 10; child++) {
            house.add(40, child, 4, 0, 10);
        }
        due("admit()", house.p.admit(), 10);
        CHECKS.due("load(4)", house.p.load(4), 10.0);
        CHECKS.due("load(3) without children", house.p.load(3), 0.0);
        house.p.work(0, 4, 0, 3);
        CHECKS.due("load(4)", house.p.load(4), 100.0 / 3.0);
        house.p.work(0, 4, 9, 10);
        CHECKS.due("load(4)", house.p.load(4), 100.0);
        house.p.work(0, 4, 0, 1);
        CHECKS.due("load(4)", house.p.load(4), 100.0);
        house.p.setHoliday(0, 0, true);
        CHECKS.due("load(4) with holidays", house.p.load(4), 100.0);
        house.p.work(0, 4, 5, 5);
        CHECKS.due("load(4) with children, without staff", house.p.load(4), 0.0);
        house.addStaff();
        house.addStaff();
        house.addStaff();
        house.p.book(0, 4, 0, 1);
        for (int child = 1; child < 10; child++) {
            house.p.release(child);
        }
        CHECKS.due("load(4) of one hour with 30", house.p.load(4), 1.0 / 30.0);
    }
}
