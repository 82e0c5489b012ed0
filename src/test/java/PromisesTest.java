/** Each promise of the document by hand: ordinary inputs, the edges, and wrong inputs. */
public final class PromisesTest {
    private static final int BAD = -1;
    private static final int STATE = -2;
    private static final int FULL = -3;
    private static final int NONE = -9;
    private static final int LOWEST = Integer.MIN_VALUE;
    private static final int HIGHEST = Integer.MAX_VALUE;
    private static final int[] NO_CHILDREN = {-1, 24, LOWEST, HIGHEST};
    private static final int[] NO_EDUCATORS = {-1, 8, LOWEST, HIGHEST};
    private static final int[] NO_DAYS = {-1, 5, LOWEST, HIGHEST};
    private static final int[] NO_HOURS = {-1, 10, LOWEST, HIGHEST};
    private static final int[] NO_WEEKS = {-1, 52, LOWEST, HIGHEST};
    private static final int[] NO_GROUPS = {-1, 3, LOWEST, HIGHEST};
    private static final int[][] NO_SPANS = {
        {-1, 3}, {4, 3}, {0, 11}, {11, 11}, {LOWEST, HIGHEST}, {HIGHEST, LOWEST}, {0, -1}, {10, 9}};

    private static final Checks CHECKS = new Checks();
    private static KindergartenPlanner p;

    public static void main(String[] args) {
        promises1To7();
        promises8And9();
        promises10To12();
        promises13And14();
        promises15To21();
        promises22To26();
        promises27To30();
        promises31To32();
        promises33To35();
        promises36To38();
        promise39();
        CHECKS.end();
    }

    private static void due(String call, long got, long want) {
        CHECKS.due(call, got, want);
    }

    private static void fresh() {
        p = new KindergartenPlanner();
    }

    /** Checks that the calls since the digest was taken have changed nothing. */
    private static void unchanged(String after, long digest) {
        due("digest() after " + after, p.digest(), digest);
    }

    /** A house where educators 0 to count - 1 work all hours of the week. */
    private static void freshWithStaff(int count) {
        fresh();
        for (int educator = 0; educator < count; educator++) {
            p.addEducator();
            for (int day = 0; day < 5; day++) {
                p.work(educator, day, 0, 10);
            }
        }
    }

    private static int addBooked(int age, int family, int day, int begin, int end) {
        int child = p.addChild(age, family);
        p.book(child, day, begin, end);
        return child;
    }

    private static void typeAll(String text) {
        for (int i = 0; i < text.length(); i++) {
            p.type(text.charAt(i));
        }
    }

    // ---- children

    private static void promises1To7() {
        promise1();
        promise2();
        promise3();
        promises4To7();
    }

    private static void promise1() {
        fresh();
        due("children()", p.children(), 0);
        due("educators()", p.educators(), 0);
        due("waiting(0)", p.waiting(0), NONE);
        due("isAdmitted(0)", p.isAdmitted(0), BAD);
        due("unsafeHours()", p.unsafeHours(), 0);
        due("income()", p.income(), 0);
        due("clearText()", p.clearText(), 0);
        for (int day = 0; day < 5; day++) {
            due("coverOf(" + day + ")", p.coverOf(day), 0);
            due("shortage(51, " + day + ")", p.shortage(51, day), 0);
        }
        int[] ratios = {4, 6, 10};
        int[] rates = {400, 300, 250};
        for (int group = 0; group < 3; group++) {
            due("setRatio", p.setRatio(group, 1), ratios[group]);
            due("setRate", p.setRate(group, 1), rates[group]);
        }
        due("setRoomLimit(1)", p.setRoomLimit(1), 20);
        due("addSubstitute of a new object", p.addSubstitute(31, 5, 1), 0);
        due("nextMonth() of a new object", p.nextMonth(), 1);
        KindergartenPlanner other = new KindergartenPlanner();
        due("children() of another object", other.children(), 0);
        due("setRatio of another object", other.setRatio(0, 2), 4);
        due("nextMonth() of another object", other.nextMonth(), 1);
    }

    private static void promise2() {
        fresh();
        int[][] wrong = {{2, 0}, {78, 0}, {3, -1}, {3, 12}, {LOWEST, 0}, {HIGHEST, 0}, {30, LOWEST}, {30, HIGHEST}};
        for (int[] w : wrong) {
            due("addChild(" + w[0] + ", " + w[1] + ")", p.addChild(w[0], w[1]), BAD);
        }
        due("children()", p.children(), 0);
        due("addChild(3, 0)", p.addChild(3, 0), 0);
        due("addChild(77, 11)", p.addChild(77, 11), 1);
        due("age(0)", p.age(0), 3);
        due("age(1)", p.age(1), 77);
        due("isAdmitted(1)", p.isAdmitted(1), 0);
        due("waited(1)", p.waited(1), 0);
        due("hours(1)", p.hours(1), 0);
        for (int number = 2; number < 24; number++) {
            due("addChild(30, 5)", p.addChild(30, 5), number);
        }
        long digest = p.digest();
        due("a child too many", p.addChild(30, 5), FULL);
        due("BAD before FULL", p.addChild(2, 5), BAD);
        due("BAD before FULL", p.addChild(30, 12), BAD);
        unchanged("refused children", digest);
        due("removeChild(23)", p.removeChild(23), 23);
        due("removeChild(7)", p.removeChild(7), 22);
        due("the smallest free number", p.addChild(30, 5), 7);
        due("the next free number", p.addChild(30, 5), 23);
        due("a child too many", p.addChild(30, 5), FULL);
    }

    private static void promise3() {
        freshWithStaff(1);
        addBooked(40, 0, 0, 0, 4);
        due("admit()", p.admit(), 1);
        addBooked(50, 0, 1, 0, 4);
        long digest = p.digest();
        for (int wrong : NO_CHILDREN) {
            due("removeChild(" + wrong + ")", p.removeChild(wrong), BAD);
        }
        due("removeChild(2)", p.removeChild(2), BAD);
        unchanged("a child that is not there", digest);
        due("points(1)", p.points(1), 29);
        due("removeChild of an admitted child", p.removeChild(0), 1);
        due("removeChild again", p.removeChild(0), BAD);
        due("points(1) without the sibling", p.points(1), 4);
        due("present(0, 0)", p.present(0, 0), 0);
        due("removeChild of a waiting child", p.removeChild(1), 0);
        due("addChild(20, 1)", p.addChild(20, 1), 0);
        due("hours of the new child", p.hours(0), 0);
        due("isAdmitted of the new child", p.isAdmitted(0), 0);
    }

    private static void promises4To7() {
        freshWithStaff(1);
        addBooked(20, 3, 2, 9, 10);
        due("children()", p.children(), 1);
        p.addChild(21, 3);
        due("children()", p.children(), 2);
        p.admit();
        due("children() with an admitted child", p.children(), 2);
        due("age(0)", p.age(0), 20);
        due("age(1)", p.age(1), 21);
        due("isAdmitted(0)", p.isAdmitted(0), 1);
        due("isAdmitted(1)", p.isAdmitted(1), 0);
        due("hours(0)", p.hours(0), 1);
        due("hours(1)", p.hours(1), 0);
        for (int wrong : new int[] {-1, 2, 23, 24, LOWEST, HIGHEST}) {
            due("age(" + wrong + ")", p.age(wrong), BAD);
            due("isAdmitted(" + wrong + ")", p.isAdmitted(wrong), BAD);
            due("hours(" + wrong + ")", p.hours(wrong), BAD);
        }
    }

    private static void promises8And9() {
        promise8();
        promise8WhenAdmitted();
        promise9();
    }

    private static void promise8() {
        fresh();
        p.addChild(30, 0);
        due("book(0, 0, 0, 10)", p.book(0, 0, 0, 10), 10);
        due("book(0, 4, 9, 10)", p.book(0, 4, 9, 10), 11);
        due("in place of the span before", p.book(0, 0, 2, 5), 4);
        due("an empty span", p.book(0, 4, 10, 10), 3);
        due("an empty span at 0", p.book(0, 0, 0, 0), 0);
        for (int day = 0; day < 5; day++) {
            due("all hours of day " + day, p.book(0, day, 0, 10), 10 * day + 10);
        }
        due("an empty span between", p.book(0, 2, 5, 5), 40);
        long digest = p.digest();
        for (int wrong : NO_CHILDREN) {
            due("book(" + wrong + ", 0, 0, 1)", p.book(wrong, 0, 0, 1), BAD);
        }
        due("book(1, 0, 0, 1)", p.book(1, 0, 0, 1), BAD);
        for (int wrong : NO_DAYS) {
            due("book(0, " + wrong + ", 0, 1)", p.book(0, wrong, 0, 1), BAD);
        }
        for (int[] wrong : NO_SPANS) {
            due("book(0, 0, " + wrong[0] + ", " + wrong[1] + ")", p.book(0, 0, wrong[0], wrong[1]), BAD);
        }
        unchanged("wrong bookings", digest);
    }

    private static void promise8WhenAdmitted() {
        fresh();
        p.addEducator();
        p.work(0, 1, 2, 6);
        addBooked(40, 0, 1, 2, 4);
        due("admit()", p.admit(), 1);
        long digest = p.digest();
        due("an hour before the staff comes", p.book(0, 1, 1, 4), FULL);
        due("an hour after the staff has gone", p.book(0, 1, 2, 7), FULL);
        due("a day without staff", p.book(0, 0, 2, 4), FULL);
        due("BAD before FULL", p.book(0, 1, 1, 11), BAD);
        unchanged("refused bookings", digest);
        due("as long as the staff", p.book(0, 1, 2, 6), 4);
        p.work(0, 1, 3, 6);
        due("unsafeHours()", p.unsafeHours(), 1);
        due("an unsafe hour may be kept", p.book(0, 1, 2, 5), 3);
        due("an unsafe hour may be given up", p.book(0, 1, 3, 5), 2);
        due("but not taken again", p.book(0, 1, 2, 5), FULL);
        due("an empty span is never refused", p.book(0, 1, 9, 9), 0);
        due("isAdmitted(0) without hours", p.isAdmitted(0), 1);
        due("the room limit", p.setRoomLimit(1), 20);
        addBooked(40, 1, 1, 3, 5);
        due("admit()", p.admit(), 1);
        due("the room is full at 4", p.book(0, 1, 4, 6), FULL);
        due("the room is free at 5", p.book(0, 1, 5, 6), 1);
    }

    private static void promise9() {
        freshWithStaff(8);
        addBooked(23, 0, 0, 0, 1);
        addBooked(77, 1, 0, 0, 1);
        p.admit();
        p.addChild(77, 2);
        p.addChild(76, 3);
        p.addChild(35, 3);
        due("nextMonth()", p.nextMonth(), 1);
        due("children() after 77", p.children(), 3);
        due("age(0)", p.age(0), 24);
        due("age of a child that is gone", p.age(1), BAD);
        due("age of a child that is gone", p.age(2), BAD);
        due("age(3)", p.age(3), 77);
        due("waited(3)", p.waited(3), 1);
        due("waited(4)", p.waited(4), 1);
        due("present(0, 0)", p.present(0, 0), 1);
        due("nextMonth()", p.nextMonth(), 2);
        due("age(3) after 77", p.age(3), BAD);
        due("waited(4)", p.waited(4), 2);
        p.release(0);
        due("the months of an admitted child do not count", p.waited(0), 0);
        due("addChild takes the free number", p.addChild(3, 0), 1);
        for (int month = 3; month <= 76; month++) {
            due("nextMonth()", p.nextMonth(), month);
        }
        due("waited(1)", p.waited(1), 74);
        due("age(1)", p.age(1), 77);
        due("children()", p.children(), 1);
        due("nextMonth()", p.nextMonth(), 77);
        due("children()", p.children(), 0);
    }

    // ---- waiting list

    private static void promises10To12() {
        promises10And11();
        promise12();
        promise12OfAll();
    }

    private static void promises10And11() {
        freshWithStaff(1);
        addBooked(40, 3, 0, 0, 5);
        due("waited(0)", p.waited(0), 0);
        due("points(0)", p.points(0), 5);
        p.nextMonth();
        p.nextMonth();
        due("waited(0)", p.waited(0), 2);
        due("points(0)", p.points(0), 25);
        p.addChild(50, 3);
        p.addChild(50, 4);
        due("points with a waiting sibling", p.points(1), 0);
        p.admit();
        due("points with an admitted sibling", p.points(1), 25);
        due("points with an admitted child of another family", p.points(2), 0);
        due("waited(0)", p.waited(0), STATE);
        due("points(0)", p.points(0), STATE);
        addBooked(10, 3, 1, 0, 1);
        p.admit();
        p.nextMonth();
        due("points with two admitted siblings", p.points(1), 35);
        p.release(0);
        due("points of a released child with a sibling", p.points(0), 30);
        p.release(3);
        due("points(1) without siblings", p.points(1), 10);
        for (int wrong : new int[] {-1, 4, 24, LOWEST, HIGHEST}) {
            due("waited(" + wrong + ")", p.waited(wrong), BAD);
            due("points(" + wrong + ")", p.points(wrong), BAD);
        }
    }

    private static void promise12() {
        freshWithStaff(1);
        addBooked(30, 0, 0, 0, 2);
        addBooked(31, 1, 0, 0, 2);
        addBooked(31, 2, 0, 0, 2);
        addBooked(3, 3, 0, 0, 3);
        p.addChild(77, 4);
        int[] order = {3, 1, 2, 0, 4};
        for (int place = 0; place < order.length; place++) {
            due("waiting(" + place + ")", p.waiting(place), order[place]);
        }
        due("waiting(5)", p.waiting(5), NONE);
        due("waiting(24)", p.waiting(24), NONE);
        due("waiting(HIGHEST)", p.waiting(HIGHEST), NONE);
        due("waiting(-1)", p.waiting(-1), BAD);
        due("waiting(LOWEST)", p.waiting(LOWEST), BAD);
        due("admit()", p.admit(), 4);
        due("waiting(0)", p.waiting(0), 4);
        due("waiting(1)", p.waiting(1), NONE);
        p.addChild(40, 0);
        due("a sibling comes first", p.waiting(0), 5);
        p.removeChild(4);
        p.removeChild(5);
        due("waiting(0) of an empty list", p.waiting(0), NONE);
    }

    /** Points before age, age before number, over all 24 places. */
    private static void promise12OfAll() {
        fresh();
        for (int child = 0; child < 24; child++) {
            p.addChild(10 + child / 2 % 3, child % 12);
            p.book(child, 0, 0, child % 4);
        }
        int place = 0;
        for (int points = 3; points >= 0; points--) {
            for (int age = 12; age >= 10; age--) {
                for (int child = 0; child < 24; child++) {
                    if (child % 4 == points && 10 + child / 2 % 3 == age) {
                        due("waiting(" + place + ")", p.waiting(place), child);
                        place++;
                    }
                }
            }
        }
        due("waiting(24)", p.waiting(24), NONE);
    }

    private static void promises13And14() {
        promise13();
        promise13Siblings();
        promise13Limits();
        promise14();
    }

    private static void promise13() {
        fresh();
        due("admit() without children", p.admit(), 0);
        p.addChild(40, 0);
        p.addEducator();
        due("admit() without booked hours", p.admit(), 0);
        p.book(0, 0, 0, 3);
        due("admit() without staff", p.admit(), 0);
        p.work(0, 0, 0, 2);
        due("admit() with staff for two of three hours", p.admit(), 0);
        p.work(0, 0, 1, 3);
        due("admit() with staff for the last hours", p.admit(), 0);
        p.work(0, 0, 0, 3);
        p.book(0, 4, 9, 10);
        due("admit() with an unsafe hour on another day", p.admit(), 0);
        p.work(0, 4, 9, 10);
        p.setHoliday(0, 0, true);
        due("holidays do not matter", p.admit(), 1);
        due("isAdmitted(0)", p.isAdmitted(0), 1);
        due("admit() again", p.admit(), 0);
        addBooked(40, 1, 1, 0, 1);
        addBooked(40, 2, 0, 0, 1);
        due("one cannot, the next one can", p.admit(), 1);
        due("isAdmitted(1)", p.isAdmitted(1), 0);
        due("isAdmitted(2)", p.isAdmitted(2), 1);
    }

    /** An admission gives a sibling points, so that it is before others in the list then. */
    private static void promise13Siblings() {
        freshWithStaff(1);
        p.setRatio(2, 2);
        addBooked(40, 0, 0, 0, 9);
        addBooked(40, 1, 0, 0, 8);
        addBooked(40, 0, 0, 0, 7);
        due("admit()", p.admit(), 2);
        due("isAdmitted(0)", p.isAdmitted(0), 1);
        due("isAdmitted(1)", p.isAdmitted(1), 0);
        due("isAdmitted(2)", p.isAdmitted(2), 1);
        addBooked(40, 1, 0, 9, 10);
        addBooked(40, 2, 0, 9, 10);
        due("children 3 and 4 in a free hour", p.admit(), 2);
        due("isAdmitted(1)", p.isAdmitted(1), 0);
        due("points(1)", p.points(1), 33);
    }

    private static void promise13Limits() {
        freshWithStaff(8);
        for (int child = 0; child < 24; child++) {
            addBooked(40, child % 12, 2, 3, 4);
        }
        due("admit() up to the room limit", p.admit(), 20);
        due("present(2, 3)", p.present(2, 3), 20);
        p.setRoomLimit(24);
        due("admit() up to the greatest room limit", p.admit(), 4);
        p.setRoomLimit(10);
        due("unsafeHours()", p.unsafeHours(), 1);
        due("children stay admitted", p.isAdmitted(23), 1);
        p.release(5);
        due("admit() into an unsafe hour", p.admit(), 0);
    }

    private static void promise14() {
        freshWithStaff(1);
        addBooked(40, 0, 0, 2, 7);
        p.nextMonth();
        p.nextMonth();
        due("release of a waiting child", p.release(0), STATE);
        due("waited(0)", p.waited(0), 2);
        p.admit();
        due("release(0)", p.release(0), 5);
        due("isAdmitted(0)", p.isAdmitted(0), 0);
        due("waited(0)", p.waited(0), 0);
        due("hours(0)", p.hours(0), 5);
        due("points(0)", p.points(0), 5);
        due("present(0, 2)", p.present(0, 2), 0);
        due("release again", p.release(0), STATE);
        due("admit again", p.admit(), 1);
        due("present(0, 2)", p.present(0, 2), 1);
        due("present(0, 1)", p.present(0, 1), 0);
        long digest = p.digest();
        for (int wrong : NO_CHILDREN) {
            due("release(" + wrong + ")", p.release(wrong), BAD);
        }
        due("release(1)", p.release(1), BAD);
        unchanged("wrong releases", digest);
    }

    // ---- educators

    private static void promises15To21() {
        promises15To17();
        promise18();
        promise19();
        promises20And21();
    }

    private static void promises15To17() {
        fresh();
        for (int number = 0; number < 8; number++) {
            due("educators()", p.educators(), number);
            due("addEducator()", p.addEducator(), number);
        }
        due("addEducator() of a ninth", p.addEducator(), FULL);
        due("educators()", p.educators(), 8);
        for (int wrong : NO_EDUCATORS) {
            due("removeEducator(" + wrong + ")", p.removeEducator(wrong), BAD);
        }
        p.work(3, 0, 0, 5);
        p.setHoliday(3, 9, true);
        due("staff(0, 0)", p.staff(0, 0), 1);
        due("removeEducator(6)", p.removeEducator(6), 7);
        due("removeEducator(3)", p.removeEducator(3), 6);
        due("removeEducator(3) again", p.removeEducator(3), BAD);
        due("staff(0, 0)", p.staff(0, 0), 0);
        due("educators()", p.educators(), 6);
        due("addEducator() takes the free number", p.addEducator(), 3);
        due("a new educator has empty spans", p.work(3, 1, 0, 0), 0);
        due("a new educator has no holidays", p.setHoliday(3, 9, false), 0);
        due("addEducator()", p.addEducator(), 6);
        due("removeEducator(7)", p.removeEducator(7), 7);
        due("removeEducator(0)", p.removeEducator(0), 6);
    }

    private static void promise18() {
        fresh();
        p.addEducator();
        due("work(0, 0, 0, 10)", p.work(0, 0, 0, 10), 10);
        due("work(0, 4, 9, 10)", p.work(0, 4, 9, 10), 11);
        due("in place of the span before", p.work(0, 0, 3, 5), 3);
        due("staff(0, 2)", p.staff(0, 2), 0);
        due("staff(0, 3)", p.staff(0, 3), 1);
        due("staff(0, 4)", p.staff(0, 4), 1);
        due("staff(0, 5)", p.staff(0, 5), 0);
        due("an empty span", p.work(0, 4, 0, 0), 2);
        due("an empty span", p.work(0, 0, 10, 10), 0);
        for (int day = 0; day < 5; day++) {
            due("all hours of day " + day, p.work(0, day, 0, 10), 10 * day + 10);
        }
        long digest = p.digest();
        for (int wrong : NO_EDUCATORS) {
            due("work(" + wrong + ", 0, 0, 1)", p.work(wrong, 0, 0, 1), BAD);
        }
        due("work(1, 0, 0, 1)", p.work(1, 0, 0, 1), BAD);
        for (int wrong : NO_DAYS) {
            due("work(0, " + wrong + ", 0, 1)", p.work(0, wrong, 0, 1), BAD);
        }
        for (int[] wrong : NO_SPANS) {
            due("work(0, 0, " + wrong[0] + ", " + wrong[1] + ")", p.work(0, 0, wrong[0], wrong[1]), BAD);
        }
        unchanged("wrong working hours", digest);
    }

    private static void promise19() {
        fresh();
        p.addEducator();
        p.addEducator();
        due("setHoliday(0, 0, true)", p.setHoliday(0, 0, true), 1);
        due("setHoliday(0, 51, true)", p.setHoliday(0, 51, true), 2);
        due("setHoliday(0, 51, true) again", p.setHoliday(0, 51, true), 2);
        due("setHoliday(0, 32, false)", p.setHoliday(0, 32, false), 2);
        due("setHoliday(0, 31, true)", p.setHoliday(0, 31, true), 3);
        due("setHoliday(0, 0, false)", p.setHoliday(0, 0, false), 2);
        due("setHoliday(0, 0, false) again", p.setHoliday(0, 0, false), 2);
        due("setHoliday(1, 5, true)", p.setHoliday(1, 5, true), 1);
        for (int wrong : NO_EDUCATORS) {
            due("setHoliday(" + wrong + ", 0, true)", p.setHoliday(wrong, 0, true), BAD);
        }
        due("setHoliday(2, 0, true)", p.setHoliday(2, 0, true), BAD);
        for (int wrong : NO_WEEKS) {
            due("setHoliday(0, " + wrong + ", true)", p.setHoliday(0, wrong, true), BAD);
            due("setHoliday(0, " + wrong + ", false)", p.setHoliday(0, wrong, false), BAD);
        }
        due("setHoliday(0, 31, true)", p.setHoliday(0, 31, true), 2);
        for (int week = 0; week < 52; week++) {
            p.setHoliday(1, week, true);
        }
        due("all weeks", p.setHoliday(1, 51, true), 52);
        due("all weeks but one", p.setHoliday(1, 51, false), 51);
    }

    private static void promises20And21() {
        freshWithStaff(8);
        int[] before = {4, 6, 10};
        for (int group = 0; group < 3; group++) {
            due("setRatio(" + group + ", 20)", p.setRatio(group, 20), before[group]);
            due("setRatio(" + group + ", 1)", p.setRatio(group, 1), 20);
            due("setRatio(" + group + ", 0)", p.setRatio(group, 0), BAD);
            due("setRatio(" + group + ", 21)", p.setRatio(group, 21), BAD);
            due("setRatio(" + group + ", LOWEST)", p.setRatio(group, LOWEST), BAD);
            due("setRatio(" + group + ", HIGHEST)", p.setRatio(group, HIGHEST), BAD);
            due("setRatio(" + group + ", 5 + " + group + ")", p.setRatio(group, 5 + group), 1);
        }
        for (int wrong : NO_GROUPS) {
            due("setRatio(" + wrong + ", 5)", p.setRatio(wrong, 5), BAD);
        }
        due("setRatio(1, 6)", p.setRatio(1, 6), 6);
        due("setRoomLimit(24)", p.setRoomLimit(24), 20);
        due("setRoomLimit(25)", p.setRoomLimit(25), BAD);
        due("setRoomLimit(0)", p.setRoomLimit(0), BAD);
        due("setRoomLimit(LOWEST)", p.setRoomLimit(LOWEST), BAD);
        due("setRoomLimit(HIGHEST)", p.setRoomLimit(HIGHEST), BAD);
        due("setRoomLimit(1)", p.setRoomLimit(1), 24);
        due("setRoomLimit(1) again", p.setRoomLimit(1), 1);
        addBooked(40, 0, 0, 0, 1);
        addBooked(40, 1, 0, 0, 1);
        due("admit() with a room limit of 1", p.admit(), 1);
    }

    // ---- hours

    private static void promises22To26() {
        promises22To24();
        promise23();
        promise25();
        promise26();
    }

    private static void promises22To24() {
        freshWithStaff(2);
        p.work(1, 0, 3, 7);
        addBooked(40, 0, 0, 2, 5);
        addBooked(20, 1, 0, 4, 9);
        due("present(0, 4) before they are admitted", p.present(0, 4), 0);
        due("need(0, 4) before they are admitted", p.need(0, 4), 0);
        due("admit()", p.admit(), 2);
        int[] present = {0, 0, 1, 1, 2, 1, 1, 1, 1, 0};
        int[] need = {0, 0, 1, 1, 1, 1, 1, 1, 1, 0};
        int[] staff = {1, 1, 1, 2, 2, 2, 2, 1, 1, 1};
        for (int hour = 0; hour < 10; hour++) {
            due("present(0, " + hour + ")", p.present(0, hour), present[hour]);
            due("need(0, " + hour + ")", p.need(0, hour), need[hour]);
            due("staff(0, " + hour + ")", p.staff(0, hour), staff[hour]);
        }
        due("present(1, 4)", p.present(1, 4), 0);
        due("staff(4, 9)", p.staff(4, 9), 2);
        p.setHoliday(0, 0, true);
        due("staff with a holiday", p.staff(4, 9), 2);
        for (int wrong : NO_DAYS) {
            due("present(" + wrong + ", 0)", p.present(wrong, 0), BAD);
            due("need(" + wrong + ", 0)", p.need(wrong, 0), BAD);
            due("staff(" + wrong + ", 0)", p.staff(wrong, 0), BAD);
        }
        for (int wrong : NO_HOURS) {
            due("present(0, " + wrong + ")", p.present(0, wrong), BAD);
            due("need(0, " + wrong + ")", p.need(0, wrong), BAD);
            due("staff(0, " + wrong + ")", p.staff(0, wrong), BAD);
        }
    }

    /** The need is exact: thirds that add up to 1 need one educator, and what is above 1 needs two. */
    private static void promise23() {
        freshWithStaff(8);
        int[] ages = {23, 24, 35, 36};
        for (int age : ages) {
            addBooked(age, 0, 0, 0, 1);
        }
        due("admit()", p.admit(), 4);
        p.setRatio(0, 3);
        p.setRatio(1, 6);
        p.setRatio(2, 3);
        due("1/3 + 2/6 + 1/3", p.need(0, 0), 1);
        p.setRatio(1, 5);
        due("1/3 + 2/5 + 1/3", p.need(0, 0), 2);
        p.setRatio(0, 1);
        p.setRatio(1, 1);
        p.setRatio(2, 1);
        due("1/1 + 2/1 + 1/1", p.need(0, 0), 4);
        p.setRatio(1, 2);
        p.setRatio(2, 20);
        due("1/1 + 2/2 + 1/20", p.need(0, 0), 3);
        p.setRatio(0, 20);
        due("1/20 + 2/2 + 1/20", p.need(0, 0), 2);
        p.setRatio(1, 20);
        due("1/20 + 2/20 + 1/20", p.need(0, 0), 1);
        p.setRatio(0, 1);
        p.setRatio(2, 1);
        p.nextMonth();
        due("0/1 + 2/20 + 2/1", p.need(0, 0), 3);
    }

    private static void promise25() {
        freshWithStaff(2);
        for (int child = 0; child < 3; child++) {
            addBooked(40, child, 0, 0, 10);
            p.book(child, 4, 8, 10);
        }
        due("admit()", p.admit(), 3);
        due("unsafeHours()", p.unsafeHours(), 0);
        p.setRoomLimit(3);
        due("unsafeHours() at the room limit", p.unsafeHours(), 0);
        p.setRoomLimit(2);
        due("unsafeHours() over the room limit", p.unsafeHours(), 12);
        p.setRoomLimit(20);
        p.setRatio(2, 2);
        due("a need of 2 with a staff of 2", p.unsafeHours(), 0);
        p.work(1, 0, 1, 10);
        due("a need of 2 with a staff of 1", p.unsafeHours(), 1);
        p.setRatio(2, 1);
        due("a need of 3", p.unsafeHours(), 12);
        p.removeEducator(0);
        p.setRatio(2, 20);
        due("an hour without staff", p.unsafeHours(), 1);
        p.removeEducator(1);
        due("no staff at all: hours without children are safe", p.unsafeHours(), 12);
    }

    private static void promise26() {
        fresh();
        CHECKS.due("load(0) without staff", p.load(0), 0.0);
        for (int wrong : NO_DAYS) {
            CHECKS.due("load(" + wrong + ")", p.load(wrong), -1.0);
        }
        freshWithStaff(1);
        CHECKS.due("load(0) without children", p.load(0), 0.0);
        p.work(0, 0, 0, 3);
        addBooked(40, 0, 0, 0, 3);
        addBooked(40, 1, 0, 0, 2);
        addBooked(40, 2, 0, 2, 3);
        p.book(2, 4, 9, 10);
        due("admit()", p.admit(), 3);
        CHECKS.due("load(0)", p.load(0), 2.0);
        p.book(1, 0, 0, 1);
        CHECKS.due("load(0)", p.load(0), 5.0 / 3.0);
        CHECKS.due("load(1)", p.load(1), 0.0);
        CHECKS.due("load(4)", p.load(4), 0.1);
        p.removeEducator(0);
        CHECKS.due("load(0) with children, without staff", p.load(0), 0.0);
    }

    // ---- fees

    private static void promises27To30() {
        promise27();
        promises28And29();
        feesOfAllGroupsAndLargeSums();
        promise30();
    }

    private static void promise27() {
        fresh();
        int[] before = {400, 300, 250};
        for (int group = 0; group < 3; group++) {
            due("setRate(" + group + ", 5000)", p.setRate(group, 5000), before[group]);
            due("setRate(" + group + ", 0)", p.setRate(group, 0), 5000);
            due("setRate(" + group + ", -1)", p.setRate(group, -1), BAD);
            due("setRate(" + group + ", 5001)", p.setRate(group, 5001), BAD);
            due("setRate(" + group + ", LOWEST)", p.setRate(group, LOWEST), BAD);
            due("setRate(" + group + ", HIGHEST)", p.setRate(group, HIGHEST), BAD);
            due("setRate(" + group + ", 7 + " + group + ")", p.setRate(group, 7 + group), 0);
        }
        for (int wrong : NO_GROUPS) {
            due("setRate(" + wrong + ", 5)", p.setRate(wrong, 5), BAD);
        }
        due("setRate(0, 1)", p.setRate(0, 1), 7);
        due("setRate(1, 1)", p.setRate(1, 1), 8);
        due("setRate(2, 1)", p.setRate(2, 1), 9);
    }

    private static void promises28And29() {
        freshWithStaff(8);
        due("income() of nobody", p.income(), 0);
        addBooked(40, 0, 0, 0, 1);
        addBooked(50, 0, 0, 0, 2);
        addBooked(40, 0, 0, 0, 3);
        addBooked(40, 0, 0, 0, 4);
        addBooked(76, 1, 0, 0, 5);
        addBooked(60, 0, 0, 0, 0);
        due("income() of waiting children", p.income(), 0);
        due("fee(0) of a waiting child", p.fee(0), STATE);
        due("admit()", p.admit(), 5);
        p.setRate(2, 99);
        due("rank 0", p.fee(1), 4 * 2 * 99);
        due("rank 1 by the smaller number", p.fee(0), 277);
        due("rank 2", p.fee(2), 475);
        due("rank 3", p.fee(3), 633);
        due("another family", p.fee(4), 1980);
        due("income()", p.income(), 792 + 277 + 475 + 633 + 1980);
        due("fee of a waiting sibling", p.fee(5), STATE);
        for (int wrong : new int[] {-1, 6, 24, LOWEST, HIGHEST}) {
            due("fee(" + wrong + ")", p.fee(wrong), BAD);
        }
        p.release(1);
        due("rank 0 after a release", p.fee(0), 396);
        due("rank 1 after a release", p.fee(2), 831);
        p.setRate(2, 0);
        due("income() at no rate", p.income(), 0);
    }

    private static void feesOfAllGroupsAndLargeSums() {
        freshWithStaff(8);
        int[] ages = {23, 24, 35, 36};
        int[] fees = {1600, 1200, 1200, 1000};
        for (int i = 0; i < 4; i++) {
            addBooked(ages[i], i, 3, 9, 10);
        }
        p.admit();
        for (int i = 0; i < 4; i++) {
            due("fee(" + i + ") at " + ages[i] + " months", p.fee(i), fees[i]);
        }
        p.nextMonth();
        due("fee(0) in the next group", p.fee(0), 1200);
        due("fee(2) in the next group", p.fee(2), 1000);
        freshWithStaff(8);
        p.setRoomLimit(24);
        p.setRate(2, 5000);
        for (int child = 0; child < 24; child++) {
            p.addChild(40, child % 12);
            for (int day = 0; day < 5; day++) {
                p.book(child, day, 0, 10);
            }
        }
        due("admit()", p.admit(), 24);
        due("the greatest fee", p.fee(0), 1000000);
        due("a sibling's fee", p.fee(12), 700000);
        due("the greatest income", p.income(), 20400000);
    }

    private static void promise30() {
        freshWithStaff(8);
        addBooked(40, 0, 0, 0, 1);
        addBooked(60, 0, 0, 0, 2);
        due("without admitted siblings", p.familyFeeIfAdmitted(1), 2000);
        p.book(1, 0, 0, 0);
        p.admit();
        p.book(1, 0, 0, 2);
        addBooked(50, 1, 0, 0, 9);
        p.addChild(70, 0);
        due("waiting siblings do not count", p.familyFeeIfAdmitted(1), 2000 + 700);
        due("a child without hours", p.familyFeeIfAdmitted(3), 700);
        due("an older child changes the rank of a younger one", p.fee(0), 1000);
        long digest = p.digest();
        due("of an admitted child", p.familyFeeIfAdmitted(0), STATE);
        for (int wrong : new int[] {-1, 4, 24, LOWEST, HIGHEST}) {
            due("familyFeeIfAdmitted(" + wrong + ")", p.familyFeeIfAdmitted(wrong), BAD);
        }
        due("a child that cannot be admitted", p.setRoomLimit(1), 20);
        due("a child that cannot be admitted", p.familyFeeIfAdmitted(1), 2700);
        p.setRoomLimit(20);
        unchanged("familyFeeIfAdmitted", digest);
        due("isAdmitted(1)", p.isAdmitted(1), 0);
        addBooked(40, 0, 0, 0, 3);
        due("of the same age, with a greater number", p.familyFeeIfAdmitted(4), 1000 + 2100);
        p.removeChild(0);
        addBooked(40, 2, 0, 0, 1);
        due("with nobody admitted", p.familyFeeIfAdmitted(0), 1000);
    }

    // ---- holiday cover

    private static void promises31To32() {
        promise31();
        promise32();
    }

    private static void promise31() {
        fresh();
        int[][] wrong = {{0, 1, 1}, {32, 1, 1}, {1, 0, 1}, {1, 6, 1}, {1, 1, 0}, {1, 1, 1001}, {LOWEST, 1, 1},
            {HIGHEST, 1, 1}, {1, LOWEST, 1}, {1, HIGHEST, 1}, {1, 1, LOWEST}, {1, 1, HIGHEST}, {-1, 1, 1}};
        for (int[] w : wrong) {
            due("addSubstitute(" + w[0] + ", " + w[1] + ", " + w[2] + ")", p.addSubstitute(w[0], w[1], w[2]), BAD);
        }
        due("addSubstitute(1, 1, 1)", p.addSubstitute(1, 1, 1), 0);
        due("addSubstitute(31, 5, 1000)", p.addSubstitute(31, 5, 1000), 1);
        due("addSubstitute(16, 3, 500)", p.addSubstitute(16, 3, 500), 2);
        due("addSubstitute(2, 2, 2)", p.addSubstitute(2, 2, 2), 3);
        due("addSubstitute of a fifth", p.addSubstitute(2, 2, 2), FULL);
        for (int[] w : wrong) {
            due("BAD before FULL", p.addSubstitute(w[0], w[1], w[2]), BAD);
        }
    }

    /** Needs of 1, 2 and 3 educators in the first three hours of day 1. */
    private static void houseWithShortages() {
        freshWithStaff(3);
        p.setRatio(2, 1);
        addBooked(40, 0, 1, 0, 3);
        addBooked(40, 1, 1, 1, 3);
        addBooked(40, 2, 1, 2, 3);
        due("admit()", p.admit(), 3);
    }

    private static void promise32() {
        houseWithShortages();
        due("shortage(0, 1) without holidays", p.shortage(0, 1), 0);
        p.setHoliday(0, 51, true);
        due("shortage(51, 1)", p.shortage(51, 1), 1);
        due("shortage(50, 1)", p.shortage(50, 1), 0);
        due("shortage(51, 0)", p.shortage(51, 0), 0);
        p.setHoliday(1, 51, true);
        due("shortage(51, 1)", p.shortage(51, 1), 2);
        p.work(2, 1, 0, 2);
        due("an hour without educators", p.shortage(51, 1), 3);
        due("a shortage without holidays", p.shortage(0, 1), 1);
        p.removeEducator(2);
        p.setHoliday(0, 51, false);
        due("shortage(51, 1)", p.shortage(51, 1), 2);
        for (int wrong : NO_WEEKS) {
            due("shortage(" + wrong + ", 1)", p.shortage(wrong, 1), BAD);
        }
        for (int wrong : NO_DAYS) {
            due("shortage(0, " + wrong + ")", p.shortage(0, wrong), BAD);
        }
        p.setRoomLimit(1);
        due("the room limit does not matter", p.shortage(51, 1), 2);
    }

    private static void promises33To35() {
        promise33();
        promise33Ties();
        promise34();
        promise35();
        promise35Ties();
    }

    private static void dueCover(int... sets) {
        for (int day = 0; day < sets.length; day++) {
            due("coverOf(" + day + ")", p.coverOf(day), sets[day]);
        }
    }

    /** One child on all days, one educator who has holidays in week 3. */
    private static void houseWithHoliday() {
        freshWithStaff(1);
        p.addChild(40, 0);
        for (int day = 0; day < 5; day++) {
            p.book(0, day, 4, 6);
        }
        p.admit();
        p.setHoliday(0, 3, true);
    }

    private static void promise33() {
        houseWithHoliday();
        due("cover(3) without substitutes", p.cover(3), STATE);
        due("cover(2) without substitutes", p.cover(2), 0);
        p.addSubstitute(31, 4, 10);
        due("cover(3): a substitute has 4 days at the most", p.cover(3), STATE);
        p.addSubstitute(30, 5, 1000);
        due("cover(3)", p.cover(3), 1040);
        dueCover(1, 1, 1, 1, 2);
        p.addSubstitute(8, 1, 10);
        due("cover(3)", p.cover(3), 50);
        dueCover(1, 1, 1, 4, 1);
        p.addSubstitute(1, 1, 1);
        due("cover(3)", p.cover(3), 41);
        dueCover(8, 1, 1, 1, 1);
        for (int wrong : NO_WEEKS) {
            due("cover(" + wrong + ")", p.cover(wrong), BAD);
        }
        dueCover(8, 1, 1, 1, 1);
        houseWithHoliday();
        p.addSubstitute(15, 5, 1);
        due("nobody is available on day 4", p.cover(3), STATE);
        p.book(0, 4, 0, 0);
        due("day 4 needs nobody", p.cover(3), 4);
        dueCover(1, 1, 1, 1, 0);
        houseWithShortages();
        p.setHoliday(0, 0, true);
        p.setHoliday(1, 0, true);
        p.setHoliday(2, 0, true);
        p.addSubstitute(31, 5, 1);
        p.addSubstitute(31, 5, 20);
        due("a shortage of 3 with two substitutes", p.cover(0), STATE);
        p.addSubstitute(31, 5, 300);
        due("a shortage of 3 with three substitutes", p.cover(0), 321);
        dueCover(0, 7, 0, 0, 0);
        p.addSubstitute(2, 1, 4);
        due("the cheapest three of four", p.cover(0), 25);
        dueCover(0, 11, 0, 0, 0);
    }

    private static void promise33Ties() {
        houseWithHoliday();
        p.addSubstitute(31, 3, 7);
        p.addSubstitute(31, 3, 7);
        due("cover(3)", p.cover(3), 35);
        dueCover(1, 1, 1, 2, 2);
        houseWithHoliday();
        p.addSubstitute(31, 1, 7);
        p.addSubstitute(31, 5, 5);
        p.addSubstitute(31, 2, 5);
        due("the later one is the cheaper one", p.cover(3), 25);
        dueCover(2, 2, 2, 2, 2);
        houseWithHoliday();
        p.addSubstitute(16, 1, 1);
        p.addSubstitute(17, 2, 2);
        p.addSubstitute(31, 5, 3);
        due("the days of the others are fixed by what is cheap", p.cover(3), 12);
        dueCover(2, 4, 4, 4, 1);
    }

    private static void promise34() {
        houseWithHoliday();
        dueCover(0, 0, 0, 0, 0);
        p.addSubstitute(31, 5, 10);
        dueCover(0, 0, 0, 0, 0);
        due("cover(3)", p.cover(3), 50);
        dueCover(1, 1, 1, 1, 1);
        for (int wrong : NO_DAYS) {
            due("coverOf(" + wrong + ")", p.coverOf(wrong), BAD);
        }
        p.book(0, 1, 0, 0);
        p.setHoliday(0, 3, false);
        p.nextMonth();
        dueCover(1, 1, 1, 1, 1);
        p.setHoliday(0, 3, true);
        due("cover(3)", p.cover(3), 40);
        dueCover(1, 0, 1, 1, 1);
        addBooked(40, 1, 1, 0, 1);
        addBooked(40, 2, 1, 0, 1);
        due("admit()", p.admit(), 2);
        p.setRatio(2, 1);
        due("cover(3): a shortage of 2 with one substitute", p.cover(3), STATE);
        dueCover(1, 0, 1, 1, 1);
        due("cover(52)", p.cover(52), BAD);
        dueCover(1, 0, 1, 1, 1);
        p.setRatio(2, 10);
        p.setHoliday(0, 3, false);
        due("cover(3) without a shortage", p.cover(3), 0);
        dueCover(0, 0, 0, 0, 0);
    }

    private static void promise35() {
        houseWithHoliday();
        due("without substitutes", p.cheapestHoliday(0), NONE);
        p.addSubstitute(31, 5, 10);
        p.addSubstitute(1, 1, 1);
        due("cover(3)", p.cover(3), 41);
        dueCover(2, 1, 1, 1, 1);
        long digest = p.digest();
        due("all weeks are alike", p.cheapestHoliday(0), 0);
        unchanged("cheapestHoliday", digest);
        due("no holiday was added", p.setHoliday(0, 0, false), 1);
        p.setHoliday(0, 0, true);
        p.setHoliday(0, 1, true);
        due("weeks with holidays are left out", p.cheapestHoliday(0), 2);
        p.setHoliday(0, 2, true);
        due("weeks with holidays are left out", p.cheapestHoliday(0), 4);
        for (int week = 0; week < 52; week++) {
            p.setHoliday(0, week, true);
        }
        due("no week is left", p.cheapestHoliday(0), NONE);
        p.setHoliday(0, 51, false);
        due("the last week", p.cheapestHoliday(0), 51);
        for (int wrong : NO_EDUCATORS) {
            due("cheapestHoliday(" + wrong + ")", p.cheapestHoliday(wrong), BAD);
        }
        due("cheapestHoliday(1)", p.cheapestHoliday(1), BAD);
    }

    /** The holidays of a second educator make some weeks dearer, and some impossible. */
    private static void promise35Ties() {
        houseWithHoliday();
        p.setHoliday(0, 3, false);
        p.addEducator();
        p.work(1, 0, 0, 10);
        p.work(1, 1, 0, 10);
        p.addSubstitute(31, 4, 10);
        for (int week = 0; week < 52; week++) {
            p.setHoliday(1, week, week != 20 && week != 30);
        }
        due("only two weeks have a cover", p.cheapestHoliday(0), 20);
        p.setHoliday(0, 20, true);
        due("the other one", p.cheapestHoliday(0), 30);
        p.setHoliday(0, 20, false);
        p.addSubstitute(1, 1, 500);
        due("of weeks with and without the second educator", p.cheapestHoliday(0), 20);
        p.setHoliday(1, 10, false);
        due("the smallest of the cheapest ones", p.cheapestHoliday(0), 10);
        due("the second educator is needed by nobody", p.cheapestHoliday(1), 10);
    }

    // ---- text

    private static void promises36To38() {
        promises36And37();
        promise38();
        promise38Faults();
        promise38WhenAdmitted();
    }

    private static void promises36And37() {
        fresh();
        due("type(31)", p.type(31), BAD);
        due("type(127)", p.type(127), BAD);
        due("type(LOWEST)", p.type(LOWEST), BAD);
        due("type(HIGHEST)", p.type(HIGHEST), BAD);
        due("type(65536 + 48)", p.type(65536 + 48), BAD);
        due("type(32)", p.type(32), 1);
        due("type(126)", p.type(126), 2);
        for (int length = 3; length <= 60; length++) {
            due("type(65)", p.type(65), length);
        }
        due("type of a sign too many", p.type(65), FULL);
        due("BAD before FULL", p.type(127), BAD);
        due("clearText()", p.clearText(), 60);
        due("clearText() again", p.clearText(), 0);
        due("type after clearText", p.type(48), 1);
        due("clearText()", p.clearText(), 1);
    }

    private static void promise38() {
        fresh();
        p.addChild(40, 0);
        p.book(0, 2, 0, 10);
        due("BAD", p.loadBookings(1), BAD);
        due("the empty text empties the spans", p.loadBookings(0), 0);
        typeAll("0ak;1bc;2jk;3ab;4ij;");
        due("five entries", p.loadBookings(0), 14);
        due("the text stays", p.loadBookings(0), 14);
        due("clearText()", p.clearText(), 20);
        typeAll("1bd;4aj;");
        due("two entries", p.loadBookings(0), 11);
        p.addEducator();
        p.work(0, 1, 1, 3);
        p.work(0, 4, 0, 9);
        due("admit()", p.admit(), 1);
        due("present(1, 0)", p.present(1, 0), 0);
        due("present(1, 1)", p.present(1, 1), 1);
        due("present(1, 2)", p.present(1, 2), 1);
        due("present(1, 3)", p.present(1, 3), 0);
        due("present(4, 8)", p.present(4, 8), 1);
        due("present(4, 9)", p.present(4, 9), 0);
    }

    private static void promise38Faults() {
        Object[][] faults = {{"5", 0}, {" ", 0}, {"/", 0}, {"a", 0}, {";", 0}, {"0", 1}, {"0`", 1}, {"0k", 1},
            {"00", 1}, {"0A", 1}, {"0a", 2}, {"0aa", 2}, {"0al", 2}, {"0ji", 2}, {"0jj", 2}, {"0jk", 3},
            {"0jk:", 3}, {"0jk ", 3}, {"0jk;0", 4}, {"0jk; ", 4}, {"0jk;1", 5}, {"4ab;4", 4}, {"3ab;3", 4},
            {"3ab;5", 4}, {"3ab;4", 5}, {"2ab;1ab;", 4}, {"0ab;1ab;2ab;3ab;4ab;0", 20}, {"0ab;1ab;2ab;3ab;4ab;5", 20},
            {"0ab;4fe;", 6}, {"~~~", 0}, {"0ba;xxxx", 2}, {"0ab;1ab;2ab;3ab;4ab", 19}};
        for (Object[] fault : faults) {
            fresh();
            p.addChild(40, 0);
            p.book(0, 0, 0, 7);
            typeAll((String) fault[0]);
            long digest = p.digest();
            due("loadBookings of " + fault[0], p.loadBookings(0), -10 - (Integer) fault[1]);
            due("BAD before the fault of " + fault[0], p.loadBookings(1), BAD);
            unchanged("a fault", digest);
        }
        fresh();
        p.addChild(40, 0);
        typeAll("0ab;1ab;2ab;3ab;4ab;                                        ");
        due("a full text", p.loadBookings(0), -30);
        due("clearText()", p.clearText(), 60);
    }

    private static void promise38WhenAdmitted() {
        fresh();
        p.addEducator();
        p.work(0, 0, 0, 5);
        p.work(0, 1, 0, 5);
        addBooked(40, 0, 0, 0, 5);
        due("admit()", p.admit(), 1);
        p.work(0, 0, 0, 4);
        typeAll("0ae;1af;");
        due("within the staff's hours", p.loadBookings(0), 9);
        p.clearText();
        typeAll("0af;1ab;");
        long digest = p.digest();
        due("an hour more, without staff", p.loadBookings(0), FULL);
        unchanged("a refused sheet", digest);
        p.type(32);
        due("the fault before FULL", p.loadBookings(0), -18);
        for (int wrong : NO_CHILDREN) {
            due("loadBookings(" + wrong + ")", p.loadBookings(wrong), BAD);
        }
        p.clearText();
        typeAll("0ac;2ab;");
        due("a day without staff", p.loadBookings(0), FULL);
        p.work(0, 0, 1, 2);
        p.clearText();
        typeAll("0ac;");
        due("an unsafe hour that it had", p.loadBookings(0), 2);
        due("present(1, 0)", p.present(1, 0), 0);
        p.addChild(30, 0);
        p.clearText();
        typeAll("4aj;");
        due("a waiting child", p.loadBookings(1), 9);
    }

    // ---- checksum

    private static long mix(long h, long... values) {
        long mixed = h;
        for (long value : values) {
            mixed = 31 * mixed + value;
        }
        return mixed;
    }

    private static void promise39() {
        fresh();
        long h = mix(43081, 0, 0, 0);
        h = mix(h, new long[150]);
        h = mix(h, 0, 0);
        h = mix(h, new long[10]);
        due("digest() of a new object", p.digest(), mix(h, 0));

        p.addEducator();
        p.work(0, 0, 0, 1);
        p.work(0, 2, 5, 6);
        addBooked(30, 0, 0, 0, 1);
        p.addChild(40, 0);
        addBooked(50, 4, 2, 5, 6);
        p.admit();
        p.removeChild(1);
        p.nextMonth();
        p.addChild(20, 4);
        p.addChild(20, 5);
        p.nextMonth();
        p.addSubstitute(31, 5, 3);
        p.addSubstitute(31, 5, 2);
        p.setHoliday(0, 9, true);
        p.cover(9);
        p.work(0, 2, 7, 8);
        typeAll("abc");
        h = mix(43081, 2, 4);
        h = mix(h, 0, 32, 1, 1, 1200);
        h = mix(h, 1, 21, 0, 0, 35);
        h = mix(h, 2, 52, 1, 1, 1000);
        h = mix(h, 3, 21, 0, 0, 10);
        h = mix(h, 1);
        for (int hour = 0; hour < 50; hour++) {
            boolean children = hour == 0 || hour == 25;
            boolean staff = hour == 0 || hour == 27;
            h = mix(h, children ? 1 : 0, children ? 1 : 0, staff ? 1 : 0);
        }
        h = mix(h, 1, 2200);
        h = mix(h, 2, 0, 2, 0, 0);
        h = mix(h, 0, 0, 1, 0, 0);
        due("digest()", p.digest(), mix(h, 3));
        due("digest() again", p.digest(), mix(h, 3));
    }
}
