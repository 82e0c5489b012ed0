/** The edges of the waiting list, and of the promises 10 to 14, sentence by sentence. */
public final class WaitingListEdgesTest {
    private static final int BAD = House.BAD;
    private static final int STATE = House.STATE;
    private static final int NONE = House.NONE;
    private static final int[] NO_CHILDREN = {-1, 3, 23, 24, House.LOWEST, House.HIGHEST};
    private static final Checks CHECKS = new Checks();

    public static void main(String[] args) {
        pointsOfAChild();
        orderOfTheList();
        whoCanBeAdmitted();
        waitedAndPoints();
        waitingPlaces();
        admitAgainAndAgain();
        admitAtTheLimits();
        release();
        CHECKS.end();
    }

    private static void due(String call, long got, long want) {
        CHECKS.due(call, got, want);
    }

    private static void dueList(House house, int... order) {
        for (int place = 0; place < order.length; place++) {
            due("waiting(" + place + ")", house.p.waiting(place), order[place]);
        }
        due("waiting(" + order.length + ")", house.p.waiting(order.length), NONE);
    }

    private static void pointsOfAChild() {
        CHECKS.sentence("The points of a waiting child are 10 for each month that it has waited, plus 25 if at least one other child of its family is admitted, plus 1 for each booked hour.");
        House house = House.withStaff(1);
        house.p.addChild(3, 0);
        for (int month = 0; month < 74; month++) {
            due("points(0) after " + month + " months", house.p.points(0), 10 * month);
            house.p.nextMonth();
        }
        due("points(0) after 74 months", house.p.points(0), 740);
        for (int day = 0; day < 5; day++) {
            house.p.book(0, day, 0, 10);
            due("points(0)", house.p.points(0), 750 + 10 * day);
        }
        house.add(40, 0, 0, 0, 1);
        house.p.book(0, 0, 0, 0);
        due("points(0) beside a waiting sibling", house.p.points(0), 780);

        house = House.withStaff(1);
        house.p.addChild(40, 7);
        house.add(40, 7, 0, 0, 1);
        house.add(40, 7, 0, 1, 2);
        due("points(0) before", house.p.points(0), 0);
        due("admit()", house.p.admit(), 2);
        due("points(0) with two admitted siblings", house.p.points(0), 25);
        house.p.removeChild(1);
        due("points(0) with one admitted sibling", house.p.points(0), 25);
        house.p.release(2);
        due("points(0) with no admitted sibling", house.p.points(0), 0);
        due("points(2) of the released child itself", house.p.points(2), 1);
    }

    private static void orderOfTheList() {
        CHECKS.sentence("The waiting list contains all waiting children: the child with more points is before the one with fewer points; of children with as many points, the one with the greater age is first; of those with the same age, the one with the smaller number.");
        House house = new House();
        house.add(3, 0, 0, 0, 2);
        house.add(77, 1, 0, 0, 1);
        dueList(house, 0, 1);
        house.p.book(1, 0, 0, 2);
        dueList(house, 1, 0);
        house.p.removeChild(0);
        house.add(77, 2, 4, 8, 10);
        dueList(house, 0, 1);

        house = new House();
        for (int child = 0; child < 24; child++) {
            house.p.addChild(3 + child, 0);
        }
        for (int place = 0; place < 24; place++) {
            due("waiting(" + place + ") of rising ages", house.p.waiting(place), 23 - place);
        }
        house = new House();
        for (int child = 0; child < 24; child++) {
            house.p.addChild(77, child % 12);
        }
        for (int place = 0; place < 24; place++) {
            due("waiting(" + place + ") of one age", house.p.waiting(place), place);
        }
        house = new House();
        house.p.addChild(10, 0);
        house.months(1);
        house.add(77, 1, 0, 0, 10);
        dueList(house, 1, 0);
        house.p.book(1, 0, 0, 9);
        dueList(house, 0, 1);
    }

    private static void whoCanBeAdmitted() {
        CHECKS.sentence("A waiting child can be admitted if it has at least one booked hour, and each of its booked hours would be safe if it was admitted.");
        House house = House.withStaff(8);
        house.p.addChild(40, 0);
        due("admit() of a child without hours", house.p.admit(), 0);
        house.p.book(0, 4, 9, 10);
        due("admit() of a child with one hour", house.p.admit(), 1);
        for (int missing = 0; missing < 50; missing++) {
            house = houseWithGap(missing / 10, missing % 10);
            house.addDaily(40, 0, 0, 10);
            due("admit() without staff in hour " + missing, house.p.admit(), 0);
            due("addEducator()", house.p.addEducator(), 2);
            house.p.work(2, missing / 10, missing % 10, missing % 10 + 1);
            due("admit() with staff in hour " + missing, house.p.admit(), 1);
        }
    }

    /** Two educators, one before and one after the only hour without staff. */
    private static House houseWithGap(int gapDay, int gap) {
        House house = new House();
        house.p.addEducator();
        house.p.addEducator();
        for (int day = 0; day < 5; day++) {
            house.p.work(0, day, 0, day == gapDay ? gap : 10);
        }
        house.p.work(1, gapDay, gap + 1, 10);
        return house;
    }

    private static void waitedAndPoints() {
        House house = House.withStaff(1);
        house.add(40, 0, 0, 0, 1);
        house.p.admit();
        house.p.addChild(40, 1);
        house.p.addChild(40, 0);
        CHECKS.sentence("Returns the months; BAD if there is no such child; STATE if it is admitted.");
        due("waited(0)", house.p.waited(0), STATE);
        due("waited(1)", house.p.waited(1), 0);
        house.months(2);
        due("waited(0)", house.p.waited(0), STATE);
        due("waited(1)", house.p.waited(1), 2);
        for (int child : NO_CHILDREN) {
            due("waited(" + child + ")", house.p.waited(child), BAD);
        }
        CHECKS.sentence("Returns the points; BAD if there is no such child; STATE if it is admitted.");
        due("points(0)", house.p.points(0), STATE);
        due("points(1)", house.p.points(1), 20);
        due("points(2)", house.p.points(2), 45);
        for (int child : NO_CHILDREN) {
            due("points(" + child + ")", house.p.points(child), BAD);
        }
    }

    private static void waitingPlaces() {
        CHECKS.sentence("Returns the number of the child, NONE if the waiting list has not so many children; BAD if place is negative.");
        House house = House.withStaff(8);
        house.p.setRoomLimit(24);
        for (int count = 0; count <= 24; count++) {
            due("waiting(" + (count - 1) + ") of " + count, house.p.waiting(count - 1), count == 0 ? BAD : count - 1);
            due("waiting(" + count + ") of " + count, house.p.waiting(count), NONE);
            if (count < 24) {
                house.add(40, 0, 0, 0, 1);
            }
        }
        due("waiting(-1)", house.p.waiting(-1), BAD);
        due("waiting(LOWEST)", house.p.waiting(House.LOWEST), BAD);
        due("waiting(HIGHEST)", house.p.waiting(House.HIGHEST), NONE);
        due("admit()", house.p.admit(), 24);
        due("waiting(0) when all are admitted", house.p.waiting(0), NONE);
        due("waiting(-1) when all are admitted", house.p.waiting(-1), BAD);
        house.p.release(17);
        due("waiting(0)", house.p.waiting(0), 17);
        due("waiting(1)", house.p.waiting(1), NONE);
    }

    private static void admitAgainAndAgain() {
        CHECKS.sentence("Admits children: again and again, the first child of the waiting list (as it is then) that can be admitted is admitted, until no child of it can be admitted.");
        House house = House.withStaff(1);
        due("admit() of nobody", house.p.admit(), 0);
        house.p.setRoomLimit(2);
        house.add(30, 5, 0, 0, 10);
        house.add(30, 6, 0, 0, 9);
        house.add(30, 5, 0, 9, 10);
        house.add(30, 6, 0, 0, 8);
        due("admit()", house.p.admit(), 3);
        due("isAdmitted(0), the first one", house.p.isAdmitted(0), 1);
        due("isAdmitted(1), before its sibling", house.p.isAdmitted(1), 1);
        due("isAdmitted(2), in the last hour", house.p.isAdmitted(2), 1);
        due("isAdmitted(3), in a full room", house.p.isAdmitted(3), 0);

        house = House.withStaff(1);
        house.p.setRoomLimit(2);
        house.add(30, 5, 0, 0, 10);
        house.add(30, 6, 0, 0, 9);
        house.add(30, 5, 0, 0, 1);
        due("points(1) > points(2)", house.p.waiting(1), 1);
        due("admit()", house.p.admit(), 2);
        due("isAdmitted(2): 25 points for its sibling", house.p.isAdmitted(2), 1);
        due("isAdmitted(1)", house.p.isAdmitted(1), 0);

        CHECKS.sentence("Returns how many children are admitted by this call.");
        due("admit() again", house.p.admit(), 0);
        house.p.setRoomLimit(3);
        due("admit() with one place more", house.p.admit(), 1);
        due("admit() again", house.p.admit(), 0);
    }

    private static void admitAtTheLimits() {
        CHECKS.sentence("An hour of a day is safe if at most as many children as the room limit are present, and the need is at most the staff.");
        for (int limit = 1; limit <= 24; limit++) {
            House house = House.withStaff(8);
            house.p.setRoomLimit(limit);
            for (int child = 0; child < 24; child++) {
                house.add(40, child % 12, 4, 9, 10);
            }
            due("admit() with the room limit " + limit, house.p.admit(), limit);
            due("present(4, 9)", house.p.present(4, 9), limit);
            due("unsafeHours()", house.p.unsafeHours(), 0);
        }
        for (int staff = 0; staff <= 8; staff++) {
            House house = House.withStaff(staff);
            house.p.setRatio(2, 3);
            house.p.setRoomLimit(24);
            for (int child = 0; child < 24; child++) {
                house.add(40, child % 12, 0, 0, 1);
            }
            due("admit() with " + staff + " educators", house.p.admit(), 3 * staff);
            due("need(0, 0)", house.p.need(0, 0), staff);
            due("unsafeHours()", house.p.unsafeHours(), 0);
        }
    }

    private static void release() {
        CHECKS.sentence("Takes the place from an admitted child. It is waiting then, has waited 0 months, and keeps its spans.");
        House house = House.withStaff(1);
        house.add(40, 0, 0, 3, 5);
        house.p.book(0, 4, 0, 1);
        house.months(4);
        due("waited(0)", house.p.waited(0), 4);
        house.p.admit();
        due("release(0)", house.p.release(0), 3);
        due("isAdmitted(0)", house.p.isAdmitted(0), 0);
        due("waited(0)", house.p.waited(0), 0);
        due("points(0)", house.p.points(0), 3);
        due("hours(0)", house.p.hours(0), 3);
        due("waiting(0)", house.p.waiting(0), 0);
        house.p.nextMonth();
        due("waited(0)", house.p.waited(0), 1);
        due("admit()", house.p.admit(), 1);
        due("present(0, 3)", house.p.present(0, 3), 1);
        due("present(0, 5)", house.p.present(0, 5), 0);
        due("present(4, 0)", house.p.present(4, 0), 1);

        CHECKS.sentence("Returns its number of booked hours; BAD if there is no such child; STATE if it is waiting.");
        house.p.addChild(40, 0);
        house.p.addChild(40, 0);
        for (int child : NO_CHILDREN) {
            due("release(" + child + ")", house.p.release(child), BAD);
        }
        house.p.nextMonth();
        due("release(1), waiting", house.p.release(1), STATE);
        due("waited(1)", house.p.waited(1), 1);
        house.p.book(0, 0, 0, 0);
        house.p.book(0, 4, 0, 0);
        due("release(0), admitted without hours", house.p.release(0), 0);
        due("release(0) again", house.p.release(0), STATE);
    }
}
