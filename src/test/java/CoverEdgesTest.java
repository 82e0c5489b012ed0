import java.util.Arrays;

/** The edges of the holiday cover, and of the promises 31 to 35, sentence by sentence. */
public final class CoverEdgesTest {
    private static final int BAD = House.BAD;
    private static final int STATE = House.STATE;
    private static final int NONE = House.NONE;
    private static final Checks CHECKS = new Checks();

    public static void main(String[] args) {
        numbersOfSubstitutes();
        limitsOfSubstitutes();
        shortageOfAnHour();
        shortageOfADay();
        asManyAsTheShortage();
        availableDays();
        greatestNumberOfDays();
        costs();
        leastCost();
        ties();
        cover();
        coverOf();
        cheapestHoliday();
        cheapestOfSeveral();
        nothingChanges();
        CHECKS.end();
    }

    private static void due(String call, long got, long want) {
        CHECKS.due(call, got, want);
    }

    private static void dueSets(House house, int... sets) {
        for (int day = 0; day < sets.length; day++) {
            due("coverOf(" + day + ")", house.p.coverOf(day), sets[day]);
        }
    }

    /** A house with these shortages of the days, in all weeks. */
    private static House houseShortOf(int... shortages) {
        House house = new House();
        house.p.setRatio(2, 1);
        int educators = 0;
        for (int shortage : shortages) {
            educators = Math.max(educators, shortage);
        }
        for (int number = 0; number < educators; number++) {
            house.addStaff();
            int child = house.p.addChild(40, number);
            for (int day = 0; day < shortages.length; day++) {
                house.p.book(child, day, 0, number < shortages[day] ? 1 : 0);
            }
        }
        due("admit()", house.p.admit(), educators);
        for (int number = 0; number < educators; number++) {
            house.p.removeEducator(number);
        }
        return house;
    }

    private static void numbersOfSubstitutes() {
        CHECKS.sentence("There are at most 4 substitutes (initially none), numbered from 0 in the order in which they are added.");
        House house = houseShortOf(1, 0, 0, 0, 0);
        due("cover(0) with no substitute", house.p.cover(0), STATE);
        for (int number = 0; number < 4; number++) {
            due("addSubstitute(31, 5, 1)", house.p.addSubstitute(31, 5, 9 - number), number);
            due("cover(0) with the cheaper one", house.p.cover(0), 9 - number);
            dueSets(house, 1 << number, 0, 0, 0, 0);
        }
        due("addSubstitute(31, 5, 1) of a fifth", house.p.addSubstitute(31, 5, 1), House.FULL);
        due("cover(0) without the fifth", house.p.cover(0), 6);
    }

    private static void limitsOfSubstitutes() {
        CHECKS.sentence("Returns the number of the substitute; BAD if an argument is out of range; FULL if there are 4 substitutes.");
        for (int days = -1; days <= 33; days++) {
            due("addSubstitute(" + days + ", 1, 1)", new House().p.addSubstitute(days, 1, 1), days >= 1 && days <= 31 ? 0 : BAD);
        }
        for (int most = -1; most <= 7; most++) {
            due("addSubstitute(1, " + most + ", 1)", new House().p.addSubstitute(1, most, 1), most >= 1 && most <= 5 ? 0 : BAD);
        }
        for (int wage : new int[] {1, 2, 999, 1000}) {
            due("addSubstitute(1, 1, " + wage + ")", new House().p.addSubstitute(1, 1, wage), 0);
        }
        House house = new House();
        for (int count = 0; count <= 4; count++) {
            for (int days : House.outside(1, 31)) {
                due("addSubstitute(" + days + ", 1, 1)", house.p.addSubstitute(days, 1, 1), BAD);
            }
            for (int most : House.outside(1, 5)) {
                due("addSubstitute(1, " + most + ", 1)", house.p.addSubstitute(1, most, 1), BAD);
            }
            for (int wage : House.outside(1, 1000)) {
                due("addSubstitute(1, 1, " + wage + ")", house.p.addSubstitute(1, 1, wage), BAD);
            }
            due("addSubstitute(31, 5, 1000)", house.p.addSubstitute(31, 5, 1000), count < 4 ? count : House.FULL);
        }
    }

    // ---- shortages

    private static void shortageOfAnHour() {
        CHECKS.sentence("In a week, the shortage of an hour of a day is its need minus the number of educators to whose span on that day the hour belongs and who have no holiday in that week, or 0 if this is negative.");
        House house = House.withStaff(3);
        house.p.setRatio(2, 1);
        house.add(40, 0, 3, 9, 10);
        house.add(40, 1, 3, 9, 10);
        due("admit()", house.p.admit(), 2);
        due("shortage(51, 3): 2 minus 3", house.p.shortage(51, 3), 0);
        house.p.setHoliday(0, 51, true);
        due("shortage(51, 3): 2 minus 2", house.p.shortage(51, 3), 0);
        house.p.setHoliday(1, 51, true);
        due("shortage(51, 3): 2 minus 1", house.p.shortage(51, 3), 1);
        house.p.setHoliday(2, 51, true);
        due("shortage(51, 3): 2 minus 0", house.p.shortage(51, 3), 2);
        due("shortage(50, 3) of the week before", house.p.shortage(50, 3), 0);
        due("shortage(51, 2) of the day before", house.p.shortage(51, 2), 0);
        due("shortage(51, 4) of the day after", house.p.shortage(51, 4), 0);
        house.p.work(0, 3, 0, 9);
        due("shortage(0, 3): 2 minus 2 at hour 9", house.p.shortage(0, 3), 0);
        house.p.work(1, 3, 0, 9);
        due("shortage(0, 3): 2 minus 1 at hour 9", house.p.shortage(0, 3), 1);

        house = houseShortOf(8, 0, 0, 0, 0);
        due("shortage(0, 0) of eight", house.p.shortage(0, 0), 8);
    }

    private static void shortageOfADay() {
        CHECKS.sentence("The shortage of a day is the greatest shortage of its hours.");
        for (int peak = 0; peak < 10; peak++) {
            House house = House.withStaff(2);
            house.p.setRatio(2, 1);
            house.add(40, 0, 4, 0, 10);
            house.add(40, 1, 4, peak, peak + 1);
            due("admit()", house.p.admit(), 2);
            due("shortage(0, 4), none", house.p.shortage(0, 4), 0);
            house.p.removeEducator(0);
            due("shortage(0, 4) of hour " + peak, house.p.shortage(0, 4), 1);
            house.p.removeEducator(1);
            due("shortage(0, 4) of all hours, 2 in hour " + peak, house.p.shortage(0, 4), 2);
        }
        CHECKS.sentence("Returns the shortage; BAD if an argument is out of range.");
        House house = houseShortOf(1, 1, 1, 1, 1);
        for (int day = 0; day < 5; day++) {
            due("shortage(0, " + day + ")", house.p.shortage(0, day), 1);
            due("shortage(51, " + day + ")", house.p.shortage(51, day), 1);
            for (int week : House.outside(0, 51)) {
                due("shortage(" + week + ", " + day + ")", house.p.shortage(week, day), BAD);
            }
        }
        for (int day : House.outside(0, 4)) {
            due("shortage(0, " + day + ")", house.p.shortage(0, day), BAD);
            due("shortage(52, " + day + ")", house.p.shortage(52, day), BAD);
        }
    }

    // ---- covers

    private static void asManyAsTheShortage() {
        CHECKS.sentence("A cover of a week gives each day a set of substitutes, as many as the shortage of that day");
        for (int shortage = 0; shortage <= 6; shortage++) {
            for (int substitutes = 0; substitutes <= 4; substitutes++) {
                House house = houseShortOf(0, shortage, 0, 0, 0);
                for (int number = 0; number < substitutes; number++) {
                    house.p.addSubstitute(2, 1, 10);
                }
                boolean has = shortage <= substitutes;
                String where = "cover(0) of " + shortage + " by " + substitutes;
                due(where, house.p.cover(0), has ? 10 * shortage : STATE);
                dueSets(house, 0, has ? (1 << shortage) - 1 : 0, 0, 0, 0);
            }
        }
        House house = houseShortOf(0, 1, 2, 3, 4);
        for (int number = 0; number < 4; number++) {
            house.p.addSubstitute(31, 5, 1 + number);
        }
        due("cover(9)", house.p.cover(9), 1 + 3 + 6 + 10);
        dueSets(house, 0, 1, 3, 7, 15);
    }

    private static void availableDays() {
        CHECKS.sentence("A substitute has a set of days, which is an int from 1 to 31 in which bit d is set if the substitute is available on day d");
        for (int days = 1; days <= 31; days++) {
            for (int day = 0; day < 5; day++) {
                int[] shortages = new int[5];
                shortages[day] = 1;
                House house = houseShortOf(shortages);
                house.p.addSubstitute(days, 5, 3);
                boolean has = (days & 1 << day) != 0;
                due("cover(0) of day " + day + " by " + days, house.p.cover(0), has ? 3 : STATE);
                due("coverOf(" + day + ")", house.p.coverOf(day), has ? 1 : 0);
            }
        }
    }

    private static void greatestNumberOfDays() {
        CHECKS.sentence("no substitute is given to more days than the greatest number of days.");
        for (int most = 1; most <= 5; most++) {
            for (int days = 0; days <= 5; days++) {
                int[] shortages = new int[5];
                Arrays.fill(shortages, 0, days, 1);
                House house = houseShortOf(shortages);
                house.p.addSubstitute(31, most, 1);
                due("cover(0) of " + days + " days by " + most, house.p.cover(0), days <= most ? days : STATE);
                house.p.addSubstitute(31, 5, 100);
                int dear = Math.max(0, days - most);
                due("cover(0) with a dear one", house.p.cover(0), days - dear + 100 * dear);
            }
        }
        House house = houseShortOf(1, 1, 1, 1, 1);
        for (int number = 0; number < 4; number++) {
            house.p.addSubstitute(31, 1, 1);
        }
        due("five days by four who take one day each", house.p.cover(0), STATE);
        house = houseShortOf(1, 1, 1, 1, 0);
        for (int number = 0; number < 4; number++) {
            house.p.addSubstitute(31, 1, 1);
        }
        due("four days by four who take one day each", house.p.cover(0), 4);
        dueSets(house, 1, 2, 4, 8, 0);
    }

    private static void costs() {
        CHECKS.sentence("Its cost is the sum of the wages of the substitutes for all days to which they are given.");
        House house = houseShortOf(4, 4, 4, 4, 4);
        for (int number = 0; number < 4; number++) {
            house.p.addSubstitute(31, 5, 1000);
        }
        due("the greatest cost", house.p.cover(0), 20000);
        dueSets(house, 15, 15, 15, 15, 15);
        house = houseShortOf(0, 0, 0, 0, 1);
        house.p.addSubstitute(16, 1, 1);
        due("the least cost above 0", house.p.cover(0), 1);
        house.p.removeChild(0);
        due("the cost of nobody", house.p.cover(0), 0);
    }

    private static void leastCost() {
        CHECKS.sentence("The best cover is the one with the least cost");
        House house = houseShortOf(1, 1, 0, 0, 0);
        house.p.addSubstitute(3, 1, 1);
        house.p.addSubstitute(1, 1, 10);
        house.p.addSubstitute(2, 1, 9);
        due("the cheap one on the day on which the other is dear", house.p.cover(0), 10);
        dueSets(house, 1, 4, 0, 0, 0);
        house.p.addSubstitute(2, 1, 11);
        due("a dearer one changes nothing", house.p.cover(0), 10);
        dueSets(house, 1, 4, 0, 0, 0);
        house = houseShortOf(1, 1, 0, 0, 0);
        house.p.addSubstitute(3, 1, 1);
        house.p.addSubstitute(1, 1, 8);
        house.p.addSubstitute(2, 1, 9);
        due("the cheap one on the later day", house.p.cover(0), 9);
        dueSets(house, 2, 1, 0, 0, 0);
    }

    private static void ties() {
        CHECKS.sentence("of several the one that has, on the first day on which they differ, the smaller set, where a set of substitutes is compared as an int in which bit k is set if substitute k belongs to it.");
        House house = houseShortOf(1, 1, 0, 0, 0);
        house.p.addSubstitute(3, 1, 5);
        house.p.addSubstitute(3, 1, 5);
        due("cover(0)", house.p.cover(0), 10);
        dueSets(house, 1, 2, 0, 0, 0);
        house = houseShortOf(2, 0, 0, 0, 0);
        for (int number = 0; number < 4; number++) {
            house.p.addSubstitute(1, 1, 5);
        }
        due("cover(0) of two among four", house.p.cover(0), 10);
        dueSets(house, 3, 0, 0, 0, 0);
        house = houseShortOf(2, 0, 0, 0, 0);
        house.p.addSubstitute(1, 1, 4);
        house.p.addSubstitute(1, 1, 5);
        house.p.addSubstitute(1, 1, 5);
        house.p.addSubstitute(1, 1, 6);
        due("cover(0): 3 and 5 cost 9, 6 and 9 cost 10", house.p.cover(0), 9);
        dueSets(house, 3, 0, 0, 0, 0);
        house = houseShortOf(2, 0, 0, 0, 0);
        house.p.addSubstitute(1, 1, 2);
        house.p.addSubstitute(1, 1, 5);
        house.p.addSubstitute(1, 1, 5);
        house.p.addSubstitute(1, 1, 8);
        house.p.setRatio(2, 2);
        due("cover(0) of one", house.p.cover(0), 2);
        house.p.setRatio(2, 1);
        due("cover(0) of two", house.p.cover(0), 7);
        dueSets(house, 3, 0, 0, 0, 0);
        house = houseShortOf(0, 0, 0, 2, 2);
        house.p.addSubstitute(24, 1, 7);
        house.p.addSubstitute(24, 1, 3);
        house.p.addSubstitute(24, 1, 3);
        house.p.addSubstitute(24, 1, 7);
        due("cover(0) of all four", house.p.cover(0), 20);
        dueSets(house, 0, 0, 0, 3, 12);
        house = houseShortOf(1, 1, 1, 1, 1);
        house.p.addSubstitute(31, 2, 5);
        house.p.addSubstitute(31, 3, 5);
        due("the first days by the first one", house.p.cover(0), 25);
        dueSets(house, 1, 1, 2, 2, 2);
    }

    private static void cover() {
        CHECKS.sentence("Finds the best cover of a week and keeps it, in place of the one that was kept before.");
        House house = houseShortOf(1, 0, 0, 0, 0);
        house.p.addSubstitute(1, 1, 6);
        due("cover(0)", house.p.cover(0), 6);
        dueSets(house, 1, 0, 0, 0, 0);
        house.p.addSubstitute(1, 1, 5);
        dueSets(house, 1, 0, 0, 0, 0);
        due("cover(51)", house.p.cover(51), 5);
        dueSets(house, 2, 0, 0, 0, 0);

        CHECKS.sentence("Returns its cost; BAD if week is out of range; STATE if the week has no cover.");
        for (int week : House.outside(0, 51)) {
            due("cover(" + week + ")", house.p.cover(week), BAD);
        }
        dueSets(house, 2, 0, 0, 0, 0);
        house.add(40, 3, 1, 0, 1);
        house.addStaff();
        due("admit()", house.p.admit(), 1);
        house.p.setHoliday(0, 7, true);
        due("cover(7): nobody can come on day 1", house.p.cover(7), STATE);
        dueSets(house, 2, 0, 0, 0, 0);
        due("BAD before STATE", house.p.cover(52), BAD);
        due("cover(6): the educator is there", house.p.cover(6), 0);
        dueSets(house, 0, 0, 0, 0, 0);
    }

    private static void coverOf() {
        CHECKS.sentence("Returns their set, 0 if nobody is given to the day or no cover has been kept yet; BAD if day is out of range.");
        House house = houseShortOf(1, 0, 2, 0, 3);
        dueSets(house, 0, 0, 0, 0, 0);
        due("cover(0) without substitutes", house.p.cover(0), STATE);
        dueSets(house, 0, 0, 0, 0, 0);
        for (int number = 0; number < 3; number++) {
            house.p.addSubstitute(31, 3, 1);
        }
        dueSets(house, 0, 0, 0, 0, 0);
        due("cover(0)", house.p.cover(0), 6);
        dueSets(house, 1, 0, 3, 0, 7);
        for (int day : House.outside(0, 4)) {
            due("coverOf(" + day + ")", house.p.coverOf(day), BAD);
        }
    }

    // ---- the cheapest holiday

    private static void cheapestHoliday() {
        CHECKS.sentence("of all weeks in which the educator has no holiday, and which would have a cover if the educator had a holiday in it, the one with the least cost of the best cover then.");
        House house = House.withStaff(1);
        house.add(40, 0, 2, 0, 1);
        due("admit()", house.p.admit(), 1);
        CHECKS.sentence("NONE if there is no such week; BAD if there is no such educator.");
        due("cheapestHoliday(0) without substitutes", house.p.cheapestHoliday(0), NONE);
        for (int educator : new int[] {-1, 1, 7, 8, House.LOWEST, House.HIGHEST}) {
            due("cheapestHoliday(" + educator + ")", house.p.cheapestHoliday(educator), BAD);
        }
        house.p.addSubstitute(27, 5, 1);
        due("cheapestHoliday(0): nobody can come on day 2", house.p.cheapestHoliday(0), NONE);
        house.p.addSubstitute(4, 1, 1000);
        due("cheapestHoliday(0)", house.p.cheapestHoliday(0), 0);
        CHECKS.sentence("Returns the week, of several the smallest one");
        for (int week = 0; week < 52; week++) {
            due("cheapestHoliday(0)", house.p.cheapestHoliday(0), week);
            house.p.setHoliday(0, week, true);
        }
        due("cheapestHoliday(0) with holidays in all weeks", house.p.cheapestHoliday(0), NONE);
        house.p.setHoliday(0, 51, false);
        due("cheapestHoliday(0) with one week left", house.p.cheapestHoliday(0), 51);
        due("addEducator()", house.p.addEducator(), 1);
        due("cheapestHoliday(1), not needed where the other one is", house.p.cheapestHoliday(1), 51);
        house.p.setHoliday(0, 51, true);
        due("cheapestHoliday(1), not needed anywhere", house.p.cheapestHoliday(1), 0);
    }

    /** Three educators; the holidays of the others make the weeks of educator 0 dear. */
    private static void cheapestOfSeveral() {
        CHECKS.sentence("Finds the week in which one more holiday of an educator would be the cheapest");
        House house = House.withStaff(3);
        house.p.setRatio(2, 1);
        for (int child = 0; child < 3; child++) {
            house.add(40, child, 0, 0, 1);
        }
        due("admit()", house.p.admit(), 3);
        house.p.addSubstitute(1, 1, 1);
        house.p.addSubstitute(1, 1, 10);
        for (int week = 0; week < 52; week++) {
            house.p.setHoliday(1, week, week != 50);
            house.p.setHoliday(2, week, week < 30);
        }
        due("cheapestHoliday(0): 3, 2 or 1 are missing", house.p.cheapestHoliday(0), 50);
        house.p.setHoliday(0, 50, true);
        due("cheapestHoliday(0): 3 or 2 are missing", house.p.cheapestHoliday(0), 30);
        due("cheapestHoliday(1) in its only week: 2 are missing", house.p.cheapestHoliday(1), 50);
        for (int week = 30; week < 52; week++) {
            house.p.setHoliday(0, week, true);
        }
        due("cheapestHoliday(0): 3 are missing", house.p.cheapestHoliday(0), NONE);
        house.p.addSubstitute(1, 1, 100);
        due("cheapestHoliday(0): 3 are missing, 3 can come", house.p.cheapestHoliday(0), 0);
    }

    private static void nothingChanges() {
        CHECKS.sentence("Nothing changes; the kept cover stays, too.");
        House house = houseShortOf(1, 1, 1, 1, 1);
        house.addStaff();
        house.p.addSubstitute(31, 5, 4);
        house.p.addSubstitute(31, 5, 3);
        due("cheapestHoliday(0) before a cover is kept", house.p.cheapestHoliday(0), 0);
        dueSets(house, 0, 0, 0, 0, 0);
        house.p.setHoliday(0, 3, true);
        due("cover(3)", house.p.cover(3), 15);
        house.p.addSubstitute(31, 5, 2);
        due("cheapestHoliday(0)", house.p.cheapestHoliday(0), 0);
        dueSets(house, 2, 2, 2, 2, 2);
        due("shortage(0, 0)", house.p.shortage(0, 0), 0);
        due("no holiday more", house.p.setHoliday(0, 3, true), 1);
        due("cover(3)", house.p.cover(3), 10);
    }
}
