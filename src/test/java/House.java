/** A new planner, with what the tests of the edges do to it again and again. */
final class House {
    static final int BAD = -1;
    static final int STATE = -2;
    static final int FULL = -3;
    static final int NONE = -9;
    static final int LOWEST = Integer.MIN_VALUE;
    static final int HIGHEST = Integer.MAX_VALUE;

    final KindergartenPlanner p = new KindergartenPlanner();

    /** A house in which so many educators work all hours of the week. */
    static House withStaff(int count) {
        House house = new House();
        for (int number = 0; number < count; number++) {
            house.addStaff();
        }
        return house;
    }

    int addStaff() {
        int educator = p.addEducator();
        for (int day = 0; day < 5; day++) {
            p.work(educator, day, 0, 10);
        }
        return educator;
    }

    /** A waiting child with one span. */
    int add(int age, int family, int day, int begin, int end) {
        int child = p.addChild(age, family);
        p.book(child, day, begin, end);
        return child;
    }

    /** A waiting child with the same span on each day. */
    int addDaily(int age, int family, int begin, int end) {
        int child = p.addChild(age, family);
        for (int day = 0; day < 5; day++) {
            p.book(child, day, begin, end);
        }
        return child;
    }

    void type(String text) {
        for (int i = 0; i < text.length(); i++) {
            p.type(text.charAt(i));
        }
    }

    void months(int count) {
        for (int month = 0; month < count; month++) {
            p.nextMonth();
        }
    }

    /** The values below and above a range, near and far. */
    static int[] outside(int least, int most) {
        return new int[] {least - 1, most + 1, LOWEST, HIGHEST};
    }
}
