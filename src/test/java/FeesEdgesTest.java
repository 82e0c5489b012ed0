/** The edges of the fees, and of the promises 27 to 30, sentence by sentence. */
public final class FeesEdgesTest {
    private static final int BAD = House.BAD;
    private static final int STATE = House.STATE;
    private static final Checks CHECKS = new Checks();

    public static void main(String[] args) {
        rates();
        ranks();
        percentages();
        monthlyFee();
        fee();
        income();
        familyFeeIfAdmitted();
        ranksOfTheGuest();
        CHECKS.end();
    }

    private static void due(String call, long got, long want) {
        CHECKS.due(call, got, want);
    }

    /** A house whose admitted children of age group 2 pay 100 cents for rank 0, then 70, then 40. */
    private static House houseOfHundreds() {
        House house = House.withStaff(8);
        house.p.setRoomLimit(24);
        house.p.setRate(2, 25);
        return house;
    }

    private static void rates() {
        CHECKS.sentence("Each age group has a rate from 0 to 5000 cents per hour; the rates of the age groups 0, 1 and 2 are 400, 300 and 250 at first.");
        House house = new House();
        int[] first = {400, 300, 250};
        for (int group = 0; group < 3; group++) {
            due("setRate(" + group + ", 0)", house.p.setRate(group, 0), first[group]);
        }

        CHECKS.sentence("Returns the previous rate; BAD if an argument is out of range.");
        for (int group = 0; group < 3; group++) {
            due("setRate(" + group + ", 1)", house.p.setRate(group, 1), 0);
            due("setRate(" + group + ", 4999)", house.p.setRate(group, 4999), 1);
            due("setRate(" + group + ", 5000)", house.p.setRate(group, 5000), 4999);
            for (int cents : House.outside(0, 5000)) {
                due("setRate(" + group + ", " + cents + ")", house.p.setRate(group, cents), BAD);
            }
        }
        for (int group : House.outside(0, 2)) {
            due("setRate(" + group + ", 7)", house.p.setRate(group, 7), BAD);
        }
        for (int group = 0; group < 3; group++) {
            due("setRate(" + group + ", " + group + ") after what was refused", house.p.setRate(group, group), 5000);
        }
        for (int group = 0; group < 3; group++) {
            due("setRate(" + group + ", 9)", house.p.setRate(group, 9), group);
        }
    }

    private static void ranks() {
        CHECKS.sentence("The rank of an admitted child is the number of the admitted children of its family that have a greater age, or the same age and a smaller number.");
        House house = houseOfHundreds();
        house.add(40, 0, 0, 0, 1);
        house.add(41, 0, 0, 0, 1);
        house.add(41, 0, 0, 0, 1);
        house.add(77, 1, 0, 0, 1);
        due("admit()", house.p.admit(), 4);
        house.p.addChild(77, 0);
        due("fee(1), greatest age and smaller number", house.p.fee(1), 100);
        due("fee(2), greatest age and greater number", house.p.fee(2), 70);
        due("fee(0), smallest age", house.p.fee(0), 40);
        due("fee(3) of another family", house.p.fee(3), 100);
        house.p.release(1);
        due("fee(2) when child 1 waits", house.p.fee(2), 100);
        due("fee(0) when child 1 waits", house.p.fee(0), 70);
        house.p.removeChild(2);
        due("fee(0) when child 2 is gone", house.p.fee(0), 100);

        house = houseOfHundreds();
        house.add(50, 11, 0, 0, 1);
        house.add(40, 11, 0, 0, 1);
        due("admit()", house.p.admit(), 2);
        house.p.book(0, 0, 0, 0);
        due("fee(1) beside an admitted sibling without hours", house.p.fee(1), 70);
        due("fee(0) without hours", house.p.fee(0), 0);

        house = houseOfHundreds();
        house.add(77, 0, 0, 0, 1);
        house.add(70, 0, 0, 0, 1);
        due("admit()", house.p.admit(), 2);
        due("fee(1)", house.p.fee(1), 70);
        house.p.nextMonth();
        due("fee(1) when the sibling has left at 78 months", house.p.fee(1), 100);
    }

    private static void percentages() {
        CHECKS.sentence("Its percentage is 100 for the rank 0, 70 for the rank 1, and 40 for each higher rank.");
        House house = houseOfHundreds();
        for (int child = 0; child < 24; child++) {
            house.add(40, 6, 0, 0, 1);
        }
        due("admit()", house.p.admit(), 24);
        for (int child = 0; child < 24; child++) {
            due("fee(" + child + ")", house.p.fee(child), child == 0 ? 100 : child == 1 ? 70 : 40);
        }
        due("income()", house.p.income(), 100 + 70 + 22 * 40);
        house = houseOfHundreds();
        for (int child = 0; child < 24; child++) {
            house.add(40 + child, 6, 0, 0, 1);
        }
        due("admit()", house.p.admit(), 24);
        for (int child = 0; child < 24; child++) {
            due("fee(" + child + ")", house.p.fee(child), child == 23 ? 100 : child == 22 ? 70 : 40);
        }
    }

    private static void monthlyFee() {
        CHECKS.sentence("Its monthly fee is 4 times its number of booked hours, times the rate of its age group, times its percentage, divided by 100 and rounded down.");
        House house = House.withStaff(8);
        house.add(40, 0, 0, 0, 1);
        house.add(40, 0, 0, 0, 1);
        house.add(40, 0, 0, 0, 1);
        due("admit()", house.p.admit(), 3);
        int[][] dues = {{0, 0, 0, 0}, {1, 4, 2, 1}, {2, 8, 5, 3}, {3, 12, 8, 4}, {4, 16, 11, 6}, {5, 20, 14, 8},
            {4999, 19996, 13997, 7998}, {5000, 20000, 14000, 8000}};
        for (int[] d : dues) {
            house.p.setRate(2, d[0]);
            for (int child = 0; child < 3; child++) {
                due("fee(" + child + ") at " + d[0], house.p.fee(child), d[child + 1]);
            }
        }
        house.p.setRate(2, 1);
        for (int hours = 2; hours <= 10; hours++) {
            house.p.book(2, 0, 0, hours);
            due("fee(2) of " + hours + " hours", house.p.fee(2), 4 * hours * 40 / 100);
        }

        house = House.withStaff(8);
        for (int group = 0; group < 3; group++) {
            house.p.setRate(group, 5000);
            house.addDaily(12 + 12 * group, 0, 0, 10);
        }
        due("admit()", house.p.admit(), 3);
        due("fee(2), the greatest fee", house.p.fee(2), 1000000);
        due("fee(1)", house.p.fee(1), 700000);
        due("fee(0)", house.p.fee(0), 400000);
    }

    private static void fee() {
        CHECKS.sentence("Returns the fee in cents; BAD if there is no such child; STATE if it is waiting.");
        House house = House.withStaff(1);
        house.add(40, 0, 0, 0, 1);
        due("fee(0), waiting", house.p.fee(0), STATE);
        house.p.admit();
        due("fee(0), admitted", house.p.fee(0), 1000);
        house.p.book(0, 0, 0, 0);
        due("fee(0), admitted without hours", house.p.fee(0), 0);
        for (int child : new int[] {-1, 1, 23, 24, House.LOWEST, House.HIGHEST}) {
            due("fee(" + child + ")", house.p.fee(child), BAD);
        }
        house.p.release(0);
        due("fee(0), released", house.p.fee(0), STATE);
        house.p.removeChild(0);
        due("fee(0), removed", house.p.fee(0), BAD);
    }

    private static void income() {
        CHECKS.sentence("Returns the sum of the monthly fees of all admitted children.");
        House house = houseOfHundreds();
        due("income() of an empty house", house.p.income(), 0);
        for (int family = 0; family < 12; family++) {
            house.add(40, family, 0, 0, 1);
        }
        due("income() of waiting children", house.p.income(), 0);
        due("admit()", house.p.admit(), 12);
        due("income() of twelve families", house.p.income(), 1200);
        for (int family = 0; family < 12; family++) {
            house.add(40, family, 0, 0, 1);
        }
        due("income() with twelve waiting siblings", house.p.income(), 1200);
        due("admit()", house.p.admit(), 12);
        due("income() with twelve siblings", house.p.income(), 12 * 170);
        house.p.setRate(2, 1);
        due("income(): each fee is rounded down by itself", house.p.income(), 12 * 4 + 12 * 2);
        house.p.setRate(2, 0);
        due("income() at no rate", house.p.income(), 0);

        house = House.withStaff(8);
        house.p.setRoomLimit(24);
        house.p.setRate(2, 5000);
        for (int child = 0; child < 24; child++) {
            house.addDaily(40, child % 12, 0, 10);
        }
        due("admit()", house.p.admit(), 24);
        due("income(), the greatest", house.p.income(), 12 * 1700000);
    }

    private static void familyFeeIfAdmitted() {
        CHECKS.sentence("Tells what a family would pay in a month if a waiting child was admitted now, whether it can be admitted or not. Nothing changes.");
        House house = new House();
        house.p.setRate(2, 25);
        house.add(40, 0, 0, 0, 1);
        long before = house.p.digest();
        due("familyFeeIfAdmitted(0) without staff", house.p.familyFeeIfAdmitted(0), 100);
        due("digest()", house.p.digest(), before);
        due("isAdmitted(0)", house.p.isAdmitted(0), 0);
        house.p.book(0, 0, 0, 0);
        due("familyFeeIfAdmitted(0) without hours", house.p.familyFeeIfAdmitted(0), 0);

        CHECKS.sentence("BAD if there is no such child; STATE if it is admitted.");
        house.addStaff();
        house.p.book(0, 0, 0, 1);
        house.p.admit();
        due("familyFeeIfAdmitted(0), admitted", house.p.familyFeeIfAdmitted(0), STATE);
        for (int child : new int[] {-1, 1, 23, 24, House.LOWEST, House.HIGHEST}) {
            due("familyFeeIfAdmitted(" + child + ")", house.p.familyFeeIfAdmitted(child), BAD);
        }
        house.p.release(0);
        due("familyFeeIfAdmitted(0), released", house.p.familyFeeIfAdmitted(0), 100);
    }

    private static void ranksOfTheGuest() {
        CHECKS.sentence("Returns the sum of the monthly fees of all admitted children of its family and of this child, with the ranks that they would have");
        House house = houseOfHundreds();
        house.add(40, 3, 0, 0, 2);
        house.add(50, 3, 0, 0, 3);
        house.add(60, 4, 0, 0, 10);
        due("admit()", house.p.admit(), 3);
        house.add(77, 3, 0, 0, 5);
        house.add(40, 3, 0, 0, 5);
        house.add(3, 3, 0, 0, 5);
        house.add(40, 5, 0, 0, 5);
        house.add(50, 4, 0, 0, 5);
        due("the oldest one", house.p.familyFeeIfAdmitted(3), 500 + 3 * 70 + 2 * 40);
        due("one of the same age as the youngest", house.p.familyFeeIfAdmitted(4), 300 + 2 * 70 + 5 * 40);
        due("one of age group 0", house.p.familyFeeIfAdmitted(5), 300 + 2 * 70 + 4 * 5 * 400 * 40 / 100);
        due("one of a family without admitted children", house.p.familyFeeIfAdmitted(6), 500);
        due("one with an older sibling", house.p.familyFeeIfAdmitted(7), 1000 + 5 * 70);
        house.p.removeChild(0);
        house.add(50, 3, 0, 0, 7);
        due("one of the same age with a smaller number", house.p.familyFeeIfAdmitted(0), 700 + 3 * 70);
        due("fee(1) itself", house.p.fee(1), 300);
    }
}
