/** The edges of the text, and of the promises 36 to 38, sentence by sentence. */
public final class TextEdgesTest {
    private static final int BAD = House.BAD;
    private static final int FULL = House.FULL;
    private static final String FIVE = "0ak;1ak;2ak;3ak;4ak;";
    private static final Checks CHECKS = new Checks();

    public static void main(String[] args) {
        codesAndLength();
        type();
        clearText();
        sheets();
        spansOfASheet();
        everyEntry();
        faultsByAWrongSign();
        faultsByAnEnd();
        faultOfALongText();
        loadBookings();
        errorsOfLoadBookings();
        loadForAnAdmittedChild();
        loadAtTheLimits();
        CHECKS.end();
    }

    private static void due(String call, long got, long want) {
        CHECKS.due(call, got, want);
    }

    private static void codesAndLength() {
        CHECKS.sentence("There is a text of at most 60 characters with codes from 32 to 126, initially empty.");
        House house = new House();
        due("clearText() of a new object", house.p.clearText(), 0);
        int length = 0;
        for (int code = 0; code <= 260; code++) {
            boolean isRight = code >= 32 && code <= 126;
            if (length == 60) {
                due("clearText()", house.p.clearText(), 60);
                length = 0;
            }
            length += isRight ? 1 : 0;
            due("type(" + code + ")", house.p.type(code), isRight ? length : BAD);
        }
        due("clearText()", house.p.clearText(), 35);
    }

    private static void type() {
        CHECKS.sentence("Returns the length of the text then; BAD if code is out of range; FULL if the text has 60 characters.");
        House house = new House();
        int[] wrong = {31, 127, 0, -1, -32, 256 + 48, 65536 + 48, House.LOWEST, House.LOWEST + 48, House.HIGHEST};
        for (int length = 1; length <= 60; length++) {
            for (int code : new int[] {31, 127}) {
                due("type(" + code + ")", house.p.type(code), BAD);
            }
            due("type(126)", house.p.type(126), length);
        }
        for (int code : new int[] {32, 48, 126}) {
            due("type(" + code + ") behind 60", house.p.type(code), FULL);
        }
        for (int code : wrong) {
            due("BAD before FULL: type(" + code + ")", house.p.type(code), BAD);
        }
        due("clearText()", house.p.clearText(), 60);
        for (int code : wrong) {
            due("type(" + code + ")", house.p.type(code), BAD);
        }
        due("type(32)", house.p.type(32), 1);
    }

    private static void clearText() {
        CHECKS.sentence("Returns the length that it had.");
        House house = new House();
        for (int length = 0; length <= 20; length++) {
            house.type("12345678901234567890".substring(0, length));
            due("clearText()", house.p.clearText(), length);
            due("clearText() again", house.p.clearText(), 0);
        }
        house.p.addChild(40, 0);
        house.type("4ak;");
        house.p.clearText();
        due("loadBookings(0) of a text that was emptied", house.p.loadBookings(0), 0);
    }

    // ---- sheets

    /** Loads a text for a new waiting child that has 7 hours. */
    private static long load(String text) {
        House house = new House();
        house.add(40, 0, 2, 1, 8);
        house.type(text);
        return house.p.loadBookings(0);
    }

    private static void dueFault(String text, int fault) {
        due("loadBookings of '" + text + "'", load(text), -10 - fault);
    }

    private static void sheets() {
        CHECKS.sentence("As a booking sheet, it is a sequence of entries (possibly none), without spaces.");
        due("loadBookings of no entry", load(""), 0);
        for (int entries = 1; entries <= 5; entries++) {
            due("loadBookings of " + entries, load(FIVE.substring(0, 4 * entries)), 10 * entries);
        }
        for (int place = 0; place <= 20; place++) {
            dueFault(FIVE.substring(0, place) + " " + FIVE.substring(place), place);
        }
    }

    private static void spansOfASheet() {
        CHECKS.sentence("the spans of the days that have an entry are those of the entries, and the spans of all other days become empty.");
        for (int days = 0; days < 32; days++) {
            House house = House.withStaff(1);
            house.addDaily(40, 0, 0, 10);
            due("admit()", house.p.admit(), 1);
            for (int day = 0; day < 5; day++) {
                house.type((days & 1 << day) == 0 ? "" : day + "cf;");
            }
            due("loadBookings(0) of the days " + days, house.p.loadBookings(0), 3 * Integer.bitCount(days));
            for (int hour = 0; hour < 50; hour++) {
                boolean isIn = (days & 1 << hour / 10) != 0 && hour % 10 >= 2 && hour % 10 < 5;
                due("present in hour " + hour, house.p.present(hour / 10, hour % 10), isIn ? 1 : 0);
            }
        }
    }

    private static void everyEntry() {
        CHECKS.sentence("the letter of the begin (a to j for 0 to 9), the letter of the end (b to k for 1 to 10), which is greater than the begin, and a semicolon.");
        for (char begin = 'a'; begin <= 'j'; begin++) {
            for (char end = '`'; end <= 'm'; end++) {
                String text = "3" + begin + end + ";";
                boolean isEntry = end > begin && end <= 'k';
                due("loadBookings of " + text, load(text), isEntry ? end - begin : -12);
            }
        }
        CHECKS.sentence("An entry consists of the digit of a day (0 to 4), which is greater than the day of the entry before it");
        for (int before = 0; before <= 4; before++) {
            for (int day = 0; day <= 9; day++) {
                boolean isSheet = day > before && day <= 4;
                String text = before + "ab;" + day + "ak;";
                due("loadBookings of " + text, load(text), isSheet ? 11 : -14);
            }
        }
        dueFault("1ab;3ab;2ab;", 8);
        dueFault("1ab;3ab;3ab;", 8);
        due("loadBookings of days 0, 2 and 4", load("0ab;2ab;4ab;"), 3);
    }

    /** Every code at every place of a sheet of five days; the places behind it are right. */
    private static void faultsByAWrongSign() {
        CHECKS.sentence("The fault of a text that is no booking sheet is the index of the first character that cannot stand at its place when the text is read from left to right");
        String sheet = "0be;1be;2be;3be;4be;";
        for (int place = 0; place < 20; place++) {
            for (char sign = 32; sign <= 126; sign++) {
                if (!canStand(sign, place)) {
                    dueFault(sheet.substring(0, place) + sign + sheet.substring(place + 1), place);
                }
            }
        }
        for (char sign = 32; sign <= 126; sign++) {
            dueFault(sheet + sign, 20);
        }
        dueFault("0kb;", 1);
        dueFault("0jb;", 2);
        dueFault("0aa;", 2);
        dueFault("0bb;", 2);
        dueFault("5ab;", 0);
        dueFault("0ab,", 3);
        dueFault("zzzz", 0);
        dueFault("0ab;0zz", 4);
        dueFault("4ab;0", 4);
    }

    /** Whether a sign can stand at a place of the sheet 0be;1be;2be;3be;4be; when it is put there. */
    private static boolean canStand(char sign, int place) {
        switch (place % 4) {
            case 0:
                return sign >= '0' + place / 4 && sign <= '4';
            case 1:
                return sign >= 'a' && sign <= 'j';
            case 2:
                return sign >= 'c' && sign <= 'k';
            default:
                return sign == ';';
        }
    }

    private static void faultsByAnEnd() {
        CHECKS.sentence("or the length of the text if it ends before an entry is complete.");
        for (int length = 0; length <= 20; length++) {
            String text = FIVE.substring(0, length);
            due("loadBookings of '" + text + "'", load(text), length % 4 == 0 ? 10 * (length / 4) : -10 - length);
        }
        dueFault("4", 1);
        dueFault("4j", 2);
        dueFault("4jk", 3);
        dueFault("0ab;4", 5);
    }

    private static void faultOfALongText() {
        CHECKS.sentence("-10 minus the fault if the text is no booking sheet");
        String spaces = " ".repeat(60);
        dueFault(spaces, 0);
        dueFault((FIVE + spaces).substring(0, 60), 20);
        dueFault(FIVE + FIVE + FIVE, 20);
        dueFault(("4ak;" + FIVE + FIVE + FIVE).substring(0, 60), 4);
    }

    // ---- loadBookings

    private static void loadBookings() {
        CHECKS.sentence("The text stays.");
        House house = new House();
        house.p.addChild(40, 0);
        house.p.addChild(50, 1);
        house.type("0ab;4jk;");
        due("loadBookings(0)", house.p.loadBookings(0), 2);
        due("loadBookings(1)", house.p.loadBookings(1), 2);
        due("type(48)", house.p.type(48), 9);
        due("loadBookings(0)", house.p.loadBookings(0), -18);
        due("hours(0)", house.p.hours(0), 2);
        due("clearText()", house.p.clearText(), 9);

        CHECKS.sentence("Returns the number of its booked hours then");
        house.type(FIVE);
        due("loadBookings(0), all hours", house.p.loadBookings(0), 50);
        due("hours(0)", house.p.hours(0), 50);
        due("hours(1)", house.p.hours(1), 2);
        house.p.clearText();
        due("loadBookings(0), no hour", house.p.loadBookings(0), 0);
        due("hours(0)", house.p.hours(0), 0);
    }

    private static void errorsOfLoadBookings() {
        CHECKS.sentence("BAD if there is no such child (before all else); -10 minus the fault if the text is no booking sheet (before FULL; then nothing changes)");
        House house = new House();
        house.p.addEducator();
        house.p.work(0, 0, 0, 1);
        house.add(40, 0, 0, 0, 1);
        due("admit()", house.p.admit(), 1);
        String[] texts = {"", "0ab;", "0ab", "0ab;1ab;", "0ab;1ab;1"};
        int[] answers = {0, 1, -13, FULL, -18};
        for (int i = 0; i < texts.length; i++) {
            house.p.clearText();
            house.type(texts[i]);
            house.p.book(0, 0, 0, 1);
            for (int child : new int[] {-1, 1, 23, 24, House.LOWEST, House.HIGHEST}) {
                due("loadBookings(" + child + ") of '" + texts[i] + "'", house.p.loadBookings(child), BAD);
            }
            due("loadBookings(0) of '" + texts[i] + "'", house.p.loadBookings(0), answers[i]);
            due("hours(0)", house.p.hours(0), i == 0 ? 0 : 1);
            due("present(0, 0)", house.p.present(0, 0), i == 0 ? 0 : 1);
        }
    }

    private static void loadForAnAdmittedChild() {
        CHECKS.sentence("FULL if the child is admitted, and at least one hour of its new spans that does not belong to its spans before would not be safe with the child.");
        for (int hour = 0; hour < 50; hour++) {
            House house = House.withStaff(1);
            house.add(40, 0, hour / 10, hour % 10, hour % 10 + 1);
            due("admit()", house.p.admit(), 1);
            house.add(40, 1, 0, 0, 1);
            house.p.removeEducator(0);
            String text = "" + hour / 10 + (char) ('a' + hour % 10) + (char) ('b' + hour % 10) + ";";
            house.type(text);
            due("the unsafe hour that it had: " + text, house.p.loadBookings(0), 1);
            due("the same for a waiting child: " + text, house.p.loadBookings(1), 1);
            house.p.clearText();
            house.type(hour == 7 ? "0gh;" : "0hi;");
            due("another unsafe hour", house.p.loadBookings(0), FULL);
            due("hours(0)", house.p.hours(0), 1);
            due("unsafeHours()", house.p.unsafeHours(), 1);
            due("another hour for a waiting child", house.p.loadBookings(1), 1);
            house.p.clearText();
            due("no hour", house.p.loadBookings(0), 0);
            house.type(text);
            due("the hour that it gave up", house.p.loadBookings(0), FULL);
        }
    }

    private static void loadAtTheLimits() {
        House house = House.withStaff(1);
        house.p.setRoomLimit(2);
        house.add(40, 0, 4, 0, 1);
        house.add(40, 1, 4, 9, 10);
        house.add(40, 2, 4, 9, 10);
        due("admit()", house.p.admit(), 3);
        house.type("4ak;");
        due("the third child in a room of 2", house.p.loadBookings(0), FULL);
        house.p.setRoomLimit(3);
        house.p.setRatio(2, 2);
        due("the third child at 3/2 with one educator", house.p.loadBookings(0), FULL);
        house.p.setRatio(2, 3);
        due("the third child at 3/3 with one educator", house.p.loadBookings(0), 10);
        due("present(4, 9)", house.p.present(4, 9), 3);
    }
}
