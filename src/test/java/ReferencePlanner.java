import java.util.ArrayList;
import java.util.Arrays;
import java.util.Comparator;
import java.util.List;
import java.util.TreeMap;
import java.util.TreeSet;

/**
 * The document once more, written as slowly and plainly as possible, in another way than the
 * program: random runs of the program are compared with it.
 */
final class ReferencePlanner {
    static final int BAD = -1;
    static final int STATE = -2;
    static final int FULL = -3;
    static final int NONE = -9;

    private static final class Kid {
        int number;
        int age;
        int family;
        int waited;
        boolean admitted;
        int[][] spans = new int[5][2];

        boolean has(int day, int hour) {
            return within(spans[day], hour);
        }

        int hours() {
            return length(spans);
        }

        int group() {
            return age < 24 ? 0 : age <= 35 ? 1 : 2;
        }
    }

    private static final class Teacher {
        int[][] spans = new int[5][2];
        TreeSet<Integer> holidays = new TreeSet<>();
    }

    private final TreeMap<Integer, Kid> kids = new TreeMap<>();
    private final TreeMap<Integer, Teacher> teachers = new TreeMap<>();
    private final List<int[]> substitutes = new ArrayList<>();
    private final int[] ratio = {4, 6, 10};
    private final int[] rate = {400, 300, 250};
    private int limit = 20;
    private int month = 0;
    private int[] kept = new int[5];
    private String text = "";

    private static boolean within(int[] span, int hour) {
        return span[0] <= hour && hour < span[1];
    }

    private static int length(int[][] spans) {
        int sum = 0;
        for (int[] span : spans) {
            sum += span[1] - span[0];
        }
        return sum;
    }

    private static boolean out(int value, int least, int most) {
        return value < least || value > most;
    }

    // ---- children

    int addChild(int age, int family) {
        if (out(age, 3, 77) || out(family, 0, 11)) {
            return BAD;
        }
        if (kids.size() == 24) {
            return FULL;
        }
        Kid kid = new Kid();
        while (kids.containsKey(kid.number)) {
            kid.number++;
        }
        kid.age = age;
        kid.family = family;
        kids.put(kid.number, kid);
        return kid.number;
    }

    int removeChild(int child) {
        return kids.remove(child) == null ? BAD : kids.size();
    }

    int children() {
        return kids.size();
    }

    int age(int child) {
        return kids.containsKey(child) ? kids.get(child).age : BAD;
    }

    int isAdmitted(int child) {
        return !kids.containsKey(child) ? BAD : kids.get(child).admitted ? 1 : 0;
    }

    int hours(int child) {
        return kids.containsKey(child) ? kids.get(child).hours() : BAD;
    }

    int book(int child, int day, int begin, int end) {
        if (!kids.containsKey(child) || out(day, 0, 4) || out(begin, 0, 10) || out(end, begin, 10)) {
            return BAD;
        }
        int[][] spans = new int[5][];
        for (int d = 0; d < 5; d++) {
            spans[d] = d == day ? new int[] {begin, end} : kids.get(child).spans[d];
        }
        return rebook(kids.get(child), spans);
    }

    private int rebook(Kid kid, int[][] spans) {
        if (kid.admitted) {
            int[][] before = kid.spans;
            boolean fits = true;
            kid.spans = spans;
            for (int day = 0; day < 5; day++) {
                for (int hour = 0; hour < 10; hour++) {
                    boolean isNew = within(spans[day], hour) && !within(before[day], hour);
                    fits &= !isNew || safe(day, hour);
                }
            }
            kid.spans = before;
            if (!fits) {
                return FULL;
            }
        }
        kid.spans = spans;
        return kid.hours();
    }

    int nextMonth() {
        for (Kid kid : new ArrayList<>(kids.values())) {
            kid.age++;
            kid.waited += kid.admitted ? 0 : 1;
            if (kid.age == 78) {
                kids.remove(kid.number);
            }
        }
        return ++month;
    }

    // ---- waiting list

    int waited(int child) {
        Kid kid = kids.get(child);
        return kid == null ? BAD : kid.admitted ? STATE : kid.waited;
    }

    int points(int child) {
        Kid kid = kids.get(child);
        if (kid == null) {
            return BAD;
        }
        if (kid.admitted) {
            return STATE;
        }
        boolean sibling = false;
        for (Kid other : kids.values()) {
            sibling |= other.number != child && other.family == kid.family && other.admitted;
        }
        return 10 * kid.waited + (sibling ? 25 : 0) + kid.hours();
    }

    private List<Kid> list() {
        List<Kid> list = new ArrayList<>();
        for (Kid kid : kids.values()) {
            if (!kid.admitted) {
                list.add(kid);
            }
        }
        list.sort(Comparator.comparingInt((Kid kid) -> -points(kid.number))
            .thenComparingInt(kid -> -kid.age)
            .thenComparingInt(kid -> kid.number));
        return list;
    }

    int waiting(int place) {
        if (place < 0) {
            return BAD;
        }
        List<Kid> list = list();
        return place < list.size() ? list.get(place).number : NONE;
    }

    private boolean fits(Kid kid) {
        boolean fits = kid.hours() > 0;
        kid.admitted = true;
        for (int day = 0; day < 5; day++) {
            for (int hour = 0; hour < 10; hour++) {
                fits &= !kid.has(day, hour) || safe(day, hour);
            }
        }
        kid.admitted = false;
        return fits;
    }

    int admit() {
        int count = 0;
        boolean again = true;
        while (again) {
            again = false;
            for (Kid kid : list()) {
                if (fits(kid)) {
                    kid.admitted = true;
                    count++;
                    again = true;
                    break;
                }
            }
        }
        return count;
    }

    int release(int child) {
        Kid kid = kids.get(child);
        if (kid == null) {
            return BAD;
        }
        if (!kid.admitted) {
            return STATE;
        }
        kid.admitted = false;
        kid.waited = 0;
        return kid.hours();
    }

    // ---- educators

    int addEducator() {
        for (int number = 0; number < 8; number++) {
            if (!teachers.containsKey(number)) {
                teachers.put(number, new Teacher());
                return number;
            }
        }
        return FULL;
    }

    int removeEducator(int educator) {
        return teachers.remove(educator) == null ? BAD : teachers.size();
    }

    int educators() {
        return teachers.size();
    }

    int work(int educator, int day, int begin, int end) {
        if (!teachers.containsKey(educator) || out(day, 0, 4) || out(begin, 0, 10)
                || out(end, begin, 10)) {
            return BAD;
        }
        teachers.get(educator).spans[day] = new int[] {begin, end};
        return length(teachers.get(educator).spans);
    }

    int setHoliday(int educator, int week, boolean holiday) {
        if (!teachers.containsKey(educator) || out(week, 0, 51)) {
            return BAD;
        }
        TreeSet<Integer> holidays = teachers.get(educator).holidays;
        if (holiday) {
            holidays.add(week);
        } else {
            holidays.remove(week);
        }
        return holidays.size();
    }

    int setRatio(int ageGroup, int value) {
        if (out(ageGroup, 0, 2) || out(value, 1, 20)) {
            return BAD;
        }
        int before = ratio[ageGroup];
        ratio[ageGroup] = value;
        return before;
    }

    int setRoomLimit(int value) {
        if (out(value, 1, 24)) {
            return BAD;
        }
        int before = limit;
        limit = value;
        return before;
    }

    // ---- hours

    private int[] groups(int day, int hour) {
        int[] counts = new int[3];
        for (Kid kid : kids.values()) {
            if (kid.admitted && kid.has(day, hour)) {
                counts[kid.group()]++;
            }
        }
        return counts;
    }

    int present(int day, int hour) {
        return out(day, 0, 4) || out(hour, 0, 9) ? BAD : Arrays.stream(groups(day, hour)).sum();
    }

    int need(int day, int hour) {
        if (out(day, 0, 4) || out(hour, 0, 9)) {
            return BAD;
        }
        int[] c = groups(day, hour);
        int exact = c[0] * ratio[1] * ratio[2] + c[1] * ratio[0] * ratio[2]
            + c[2] * ratio[0] * ratio[1];
        int need = 0;
        while (need * ratio[0] * ratio[1] * ratio[2] < exact) {
            need++;
        }
        return need;
    }

    int staff(int day, int hour) {
        if (out(day, 0, 4) || out(hour, 0, 9)) {
            return BAD;
        }
        int count = 0;
        for (Teacher teacher : teachers.values()) {
            count += within(teacher.spans[day], hour) ? 1 : 0;
        }
        return count;
    }

    private boolean safe(int day, int hour) {
        return present(day, hour) <= limit && need(day, hour) <= staff(day, hour);
    }

    int unsafeHours() {
        int count = 0;
        for (int day = 0; day < 5; day++) {
            for (int hour = 0; hour < 10; hour++) {
                count += safe(day, hour) ? 0 : 1;
            }
        }
        return count;
    }

    double load(int day) {
        if (out(day, 0, 4)) {
            return -1.0;
        }
        double heads = 0;
        double hands = 0;
        for (int hour = 0; hour < 10; hour++) {
            heads += present(day, hour);
            hands += staff(day, hour);
        }
        return hands == 0 ? 0.0 : heads / hands;
    }

    // ---- fees

    int setRate(int ageGroup, int cents) {
        if (out(ageGroup, 0, 2) || out(cents, 0, 5000)) {
            return BAD;
        }
        int before = rate[ageGroup];
        rate[ageGroup] = cents;
        return before;
    }

    int fee(int child) {
        Kid kid = kids.get(child);
        if (kid == null) {
            return BAD;
        }
        if (!kid.admitted) {
            return STATE;
        }
        List<Kid> family = new ArrayList<>();
        for (Kid other : kids.values()) {
            if (other.admitted && other.family == kid.family) {
                family.add(other);
            }
        }
        family.sort(Comparator.comparingInt((Kid k) -> -k.age).thenComparingInt(k -> k.number));
        int rank = family.indexOf(kid);
        long percentage = rank == 0 ? 100 : rank == 1 ? 70 : 40;
        return (int) (4L * kid.hours() * rate[kid.group()] * percentage / 100L);
    }

    int income() {
        int sum = 0;
        for (Kid kid : kids.values()) {
            sum += kid.admitted ? fee(kid.number) : 0;
        }
        return sum;
    }

    int familyFeeIfAdmitted(int child) {
        Kid kid = kids.get(child);
        if (kid == null) {
            return BAD;
        }
        if (kid.admitted) {
            return STATE;
        }
        kid.admitted = true;
        int sum = 0;
        for (Kid other : kids.values()) {
            sum += other.admitted && other.family == kid.family ? fee(other.number) : 0;
        }
        kid.admitted = false;
        return sum;
    }

    // ---- holiday cover

    int addSubstitute(int days, int most, int wage) {
        if (out(days, 1, 31) || out(most, 1, 5) || out(wage, 1, 1000)) {
            return BAD;
        }
        if (substitutes.size() == 4) {
            return FULL;
        }
        substitutes.add(new int[] {days, most, wage});
        return substitutes.size() - 1;
    }

    int shortage(int week, int day) {
        if (out(week, 0, 51) || out(day, 0, 4)) {
            return BAD;
        }
        int greatest = 0;
        for (int hour = 0; hour < 10; hour++) {
            int there = 0;
            for (Teacher teacher : teachers.values()) {
                boolean works = within(teacher.spans[day], hour);
                there += works && !teacher.holidays.contains(week) ? 1 : 0;
            }
            greatest = Math.max(greatest, need(day, hour) - there);
        }
        return greatest;
    }

    /** The best cover of a week and its cost behind it, or null: all covers of the days, one by one. */
    private int[] best(int week) {
        List<List<Integer>> choices = new ArrayList<>();
        for (int day = 0; day < 5; day++) {
            choices.add(choices(day, shortage(week, day)));
        }
        int[] best = null;
        for (int a : choices.get(0)) {
            for (int b : choices.get(1)) {
                for (int c : choices.get(2)) {
                    for (int d : choices.get(3)) {
                        for (int e : choices.get(4)) {
                            int[] sets = {a, b, c, d, e, 0};
                            if (price(sets) && (best == null || better(sets, best))) {
                                best = sets;
                            }
                        }
                    }
                }
            }
        }
        return best;
    }

    private List<Integer> choices(int day, int shortage) {
        List<Integer> found = new ArrayList<>();
        // Downwards, so that the order of the sets has to decide between covers of one cost.
        for (int set = (1 << substitutes.size()) - 1; set >= 0; set--) {
            boolean fits = Integer.bitCount(set) == shortage;
            for (int k = 0; k < substitutes.size(); k++) {
                fits &= (set >> k & 1) == 0 || (substitutes.get(k)[0] >> day & 1) == 1;
            }
            if (fits) {
                found.add(set);
            }
        }
        return found;
    }

    /** Writes the cost behind the sets; false if a substitute has too many days. */
    private boolean price(int[] sets) {
        for (int k = 0; k < substitutes.size(); k++) {
            int days = 0;
            for (int day = 0; day < 5; day++) {
                days += sets[day] >> k & 1;
            }
            if (days > substitutes.get(k)[1]) {
                return false;
            }
            sets[5] += days * substitutes.get(k)[2];
        }
        return true;
    }

    private static boolean better(int[] sets, int[] others) {
        return sets[5] != others[5] ? sets[5] < others[5] : Arrays.compare(sets, others) < 0;
    }

    int cover(int week) {
        if (out(week, 0, 51)) {
            return BAD;
        }
        int[] best = best(week);
        if (best == null) {
            return STATE;
        }
        kept = Arrays.copyOf(best, 5);
        return best[5];
    }

    int coverOf(int day) {
        return out(day, 0, 4) ? BAD : kept[day];
    }

    int cheapestHoliday(int educator) {
        Teacher teacher = teachers.get(educator);
        if (teacher == null) {
            return BAD;
        }
        int cheapest = NONE;
        int least = Integer.MAX_VALUE;
        for (int week = 0; week < 52; week++) {
            if (teacher.holidays.add(week)) {
                int[] best = best(week);
                teacher.holidays.remove(week);
                if (best != null && best[5] < least) {
                    cheapest = week;
                    least = best[5];
                }
            }
        }
        return cheapest;
    }

    // ---- text

    int type(int code) {
        if (out(code, 32, 126)) {
            return BAD;
        }
        if (text.length() == 60) {
            return FULL;
        }
        text += (char) code;
        return text.length();
    }

    int clearText() {
        int length = text.length();
        text = "";
        return length;
    }

    int loadBookings(int child) {
        if (!kids.containsKey(child)) {
            return BAD;
        }
        int[][] spans = new int[5][2];
        int firstDay = 0;
        for (int at = 0; at < text.length(); at += 4) {
            String days = "01234".substring(firstDay);
            String entry = text.substring(at, Math.min(at + 4, text.length()));
            if (days.indexOf(entry.charAt(0)) < 0) {
                return -10 - at;
            }
            int day = entry.charAt(0) - '0';
            if (entry.length() < 2) {
                return -10 - text.length();
            }
            int begin = "abcdefghij".indexOf(entry.charAt(1));
            if (begin < 0) {
                return -10 - at - 1;
            }
            if (entry.length() < 3) {
                return -10 - text.length();
            }
            int end = "abcdefghijk".indexOf(entry.charAt(2));
            if (end <= begin) {
                return -10 - at - 2;
            }
            if (entry.length() < 4) {
                return -10 - text.length();
            }
            if (entry.charAt(3) != ';') {
                return -10 - at - 3;
            }
            spans[day] = new int[] {begin, end};
            firstDay = day + 1;
        }
        return rebook(kids.get(child), spans);
    }

    // ---- checksum

    long digest() {
        List<Integer> values = new ArrayList<>(List.of(month, children()));
        for (int number : kids.keySet()) {
            values.addAll(List.of(number, age(number), isAdmitted(number), hours(number)));
            values.add(isAdmitted(number) == 1 ? fee(number) : points(number));
        }
        values.add(educators());
        for (int day = 0; day < 5; day++) {
            for (int hour = 0; hour < 10; hour++) {
                values.addAll(List.of(present(day, hour), need(day, hour), staff(day, hour)));
            }
        }
        values.addAll(List.of(unsafeHours(), income()));
        for (int day = 0; day < 5; day++) {
            values.add(coverOf(day));
        }
        for (int day = 0; day < 5; day++) {
            values.add(shortage(0, day));
        }
        values.add(text.length());
        long h = 43081;
        for (int value : values) {
            h = 31 * h + value;
        }
        return h;
    }
}
