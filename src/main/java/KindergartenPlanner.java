/**
 * A planner for the places of a kindergarten: children with booked hours, a waiting list with
 * priorities, educators with working hours and holidays, staff ratios by age, substitutes who
 * cover holidays at the least cost, and fees with reductions for siblings.
 *
 * The hours of a week are numbered 0 to 49 (10 times the day plus the hour of the day), and a set
 * of them is a long in which bit n is set if hour n belongs to it.
 */
public final class KindergartenPlanner {
    public static final int BAD = -1, STATE = -2, FULL = -3, NONE = -9;

    private static final int DAYS = 5;
    private static final int HOURS = 10;
    private static final int WEEK_HOURS = DAYS * HOURS;
    private static final int WEEKS = 52;
    private static final int GROUPS = 3;
    private static final int FAMILIES = 12;
    private static final int MOST_CHILDREN = 24;
    private static final int MOST_EDUCATORS = 8;
    private static final int MOST_SUBSTITUTES = 4;
    private static final int LEAVING_AGE = 78;

    private static final int NOBODY = -1;
    private static final int NOT_WAITING = -1;
    private static final int NO_FAULT = -1;
    private static final int NO_COVER = -1;
    /** Above the cost of each cover, which is at most 4 * 5 * 1000. */
    private static final int NO_LIMIT = 1000000;

    private final Child[] children = new Child[MOST_CHILDREN];
    private final Educator[] educators = new Educator[MOST_EDUCATORS];
    private final int[] ratios = {4, 6, 10};
    private final int[] rates = {400, 300, 250};
    private int roomLimit = 20;
    private int month = 0;
    private final int[] keptCover = new int[DAYS];
    private final Sheet sheet = new Sheet();
    private final CoverSearch search = new CoverSearch();

    // Rows that calls fill anew and read at once; they stand here so that no call has to make them.
    private final Headcount heads = new Headcount();
    private final int[] priorities = new int[MOST_CHILDREN];
    private final int[] needs = new int[WEEK_HOURS];

    public KindergartenPlanner() {
    }

    // ---- children

    public int addChild(int age, int family) {
        if (age < 3 || age >= LEAVING_AGE || family < 0 || family >= FAMILIES) {
            return BAD;
        }
        for (int number = 0; number < children.length; number++) {
            if (children[number] == null) {
                children[number] = new Child(age, family);
                return number;
            }
        }
        return FULL;
    }

    public int removeChild(int child) {
        if (childAt(child) == null) {
            return BAD;
        }
        children[child] = null;
        return children();
    }

    public int children() {
        int count = 0;
        for (Child child : children) {
            if (child != null) {
                count++;
            }
        }
        return count;
    }

    public int age(int child) {
        Child found = childAt(child);
        return found == null ? BAD : found.months;
    }

    public int isAdmitted(int child) {
        Child found = childAt(child);
        if (found == null) {
            return BAD;
        }
        return found.admitted ? 1 : 0;
    }

    public int hours(int child) {
        Child found = childAt(child);
        return found == null ? BAD : found.bookedHours();
    }

    public int book(int child, int day, int begin, int end) {
        Child found = childAt(child);
        if (found == null || !isDay(day) || !isSpan(begin, end)) {
            return BAD;
        }
        return rebook(found, withSpan(found.booked, day, begin, end));
    }

    public int nextMonth() {
        month++;
        for (int number = 0; number < children.length; number++) {
            Child child = children[number];
            if (child != null) {
                child.growOlder();
                if (child.months >= LEAVING_AGE) {
                    children[number] = null;
                }
            }
        }
        return month;
    }

    /** The child with the number, or null if there is none. */
    private Child childAt(int number) {
        if (number < 0 || number >= children.length) {
            return null;
        }
        return children[number];
    }

    /** Books the hours in place of the old ones, unless a new one of an admitted child is unsafe. */
    private int rebook(Child child, long booked) {
        long added = booked & ~child.booked;
        if (child.admitted && !areSafeWith(added, child)) {
            return FULL;
        }
        child.booked = booked;
        return child.bookedHours();
    }

    // ---- waiting list

    public int waited(int child) {
        Child found = childAt(child);
        if (found == null) {
            return BAD;
        }
        return found.admitted ? STATE : found.monthsWaited;
    }

    public int points(int child) {
        Child found = childAt(child);
        if (found == null) {
            return BAD;
        }
        return found.admitted ? STATE : pointsOf(found);
    }

    public int waiting(int place) {
        if (place < 0) {
            return BAD;
        }
        notePriorities();
        for (int number = 0; number < priorities.length; number++) {
            int priority = priorities[number];
            if (priority != NOT_WAITING && countAbove(priority) == place) {
                return number;
            }
        }
        return NONE;
    }

    public int admit() {
        int count = 0;
        for (int round = 0; round < MOST_CHILDREN; round++) {
            Child next = firstThatCanBeAdmitted();
            if (next == null) {
                break;
            }
            next.admitted = true;
            count++;
        }
        return count;
    }

    public int release(int child) {
        Child found = childAt(child);
        if (found == null) {
            return BAD;
        }
        if (!found.admitted) {
            return STATE;
        }
        found.admitted = false;
        found.monthsWaited = 0;
        return found.bookedHours();
    }

    private int pointsOf(Child waitingChild) {
        int points = 10 * waitingChild.monthsWaited + waitingChild.bookedHours();
        return hasAdmittedChild(waitingChild.family) ? points + 25 : points;
    }

    private boolean hasAdmittedChild(int family) {
        for (Child child : children) {
            if (child != null && child.admitted && child.family == family) {
                return true;
            }
        }
        return false;
    }

    /** Notes for each number how far before others its child stands in the waiting list. */
    private void notePriorities() {
        for (int number = 0; number < priorities.length; number++) {
            Child child = childAt(number);
            boolean waits = child != null && !child.admitted;
            priorities[number] = waits ? priorityOf(child, number) : NOT_WAITING;
        }
    }

    /** Points, age and number in one int: ages stay below 128, and numbers below 32. */
    private int priorityOf(Child waitingChild, int number) {
        return (pointsOf(waitingChild) * 128 + waitingChild.months) * 32 + 31 - number;
    }

    private int countAbove(int priority) {
        int count = 0;
        for (int other : priorities) {
            if (other > priority) {
                count++;
            }
        }
        return count;
    }

    private Child firstThatCanBeAdmitted() {
        notePriorities();
        Child first = null;
        int highest = NOT_WAITING;
        for (int number = 0; number < priorities.length; number++) {
            Child child = childAt(number);
            if (child != null && priorities[number] > highest && canBeAdmitted(child)) {
                first = child;
                highest = priorities[number];
            }
        }
        return first;
    }

    private boolean canBeAdmitted(Child waitingChild) {
        return waitingChild.booked != 0L && areSafeWith(waitingChild.booked, waitingChild);
    }

    // ---- educators

    public int addEducator() {
        for (int number = 0; number < educators.length; number++) {
            if (educators[number] == null) {
                educators[number] = new Educator();
                return number;
            }
        }
        return FULL;
    }

    public int removeEducator(int educator) {
        if (educatorAt(educator) == null) {
            return BAD;
        }
        educators[educator] = null;
        return educators();
    }

    public int educators() {
        int count = 0;
        for (Educator educator : educators) {
            if (educator != null) {
                count++;
            }
        }
        return count;
    }

    public int work(int educator, int day, int begin, int end) {
        Educator found = educatorAt(educator);
        if (found == null || !isDay(day) || !isSpan(begin, end)) {
            return BAD;
        }
        found.working = withSpan(found.working, day, begin, end);
        return Long.bitCount(found.working);
    }

    public int setHoliday(int educator, int week, boolean holiday) {
        Educator found = educatorAt(educator);
        if (found == null || !isWeek(week)) {
            return BAD;
        }
        long bit = 1L << week;
        found.holidays = holiday ? found.holidays | bit : found.holidays & ~bit;
        return Long.bitCount(found.holidays);
    }

    public int setRatio(int ageGroup, int ratio) {
        if (!isGroup(ageGroup) || ratio < 1 || ratio > 20) {
            return BAD;
        }
        int previous = ratios[ageGroup];
        ratios[ageGroup] = ratio;
        return previous;
    }

    public int setRoomLimit(int limit) {
        if (limit < 1 || limit > MOST_CHILDREN) {
            return BAD;
        }
        int previous = roomLimit;
        roomLimit = limit;
        return previous;
    }

    /** The educator with the number, or null if there is none. */
    private Educator educatorAt(int number) {
        if (number < 0 || number >= educators.length) {
            return null;
        }
        return educators[number];
    }

    // ---- hours

    public int present(int day, int hour) {
        if (!isDay(day) || !isHour(hour)) {
            return BAD;
        }
        countHeads(hourOfWeek(day, hour));
        return heads.total();
    }

    public int need(int day, int hour) {
        if (!isDay(day) || !isHour(hour)) {
            return BAD;
        }
        return needIn(hourOfWeek(day, hour));
    }

    public int staff(int day, int hour) {
        if (!isDay(day) || !isHour(hour)) {
            return BAD;
        }
        return staffIn(hourOfWeek(day, hour));
    }

    public int unsafeHours() {
        int count = 0;
        for (int hour = 0; hour < WEEK_HOURS; hour++) {
            countHeads(hour);
            if (!areHeadsSafe(hour)) {
                count++;
            }
        }
        return count;
    }

    public double load(int day) {
        if (!isDay(day)) {
            return -1.0;
        }
        int headSum = 0;
        int staffSum = 0;
        for (int hour = 0; hour < HOURS; hour++) {
            headSum += present(day, hour);
            staffSum += staff(day, hour);
        }
        if (staffSum == 0) {
            return 0.0;
        }
        return (double) headSum / (double) staffSum;
    }

    /** Counts into heads the children who are present in an hour of the week. */
    private void countHeads(int hour) {
        heads.clear();
        for (Child child : children) {
            if (child != null && child.admitted && hasHour(child.booked, hour)) {
                heads.add(child.group());
            }
        }
    }

    /** The need of an hour of the week; those who are present in it are in heads then. */
    private int needIn(int hour) {
        countHeads(hour);
        return heads.needAt(ratios[0], ratios[1], ratios[2]);
    }

    private int staffIn(int hour) {
        int count = 0;
        for (Educator educator : educators) {
            if (educator != null && hasHour(educator.working, hour)) {
                count++;
            }
        }
        return count;
    }

    /** Tells whether an hour of the week is safe with those who are counted in heads. */
    private boolean areHeadsSafe(int hour) {
        return heads.total() <= roomLimit
            && heads.needAt(ratios[0], ratios[1], ratios[2]) <= staffIn(hour);
    }

    /** Tells whether all these hours would be safe with a child who is not present in them now. */
    private boolean areSafeWith(long hours, Child child) {
        for (int hour = 0; hour < WEEK_HOURS; hour++) {
            if (hasHour(hours, hour)) {
                countHeads(hour);
                heads.add(child.group());
                if (!areHeadsSafe(hour)) {
                    return false;
                }
            }
        }
        return true;
    }

    // ---- fees

    public int setRate(int ageGroup, int cents) {
        if (!isGroup(ageGroup) || cents < 0 || cents > 5000) {
            return BAD;
        }
        int previous = rates[ageGroup];
        rates[ageGroup] = cents;
        return previous;
    }

    public int fee(int child) {
        Child found = childAt(child);
        if (found == null) {
            return BAD;
        }
        return found.admitted ? feeOf(found, child, NOBODY) : STATE;
    }

    public int income() {
        int sum = 0;
        for (int family = 0; family < FAMILIES; family++) {
            sum += familyFee(family, NOBODY);
        }
        return sum;
    }

    public int familyFeeIfAdmitted(int child) {
        Child found = childAt(child);
        if (found == null) {
            return BAD;
        }
        return found.admitted ? STATE : familyFee(found.family, child);
    }

    /** What a family pays if the child with the number guest (NOBODY for none) counts as admitted. */
    private int familyFee(int family, int guest) {
        int sum = 0;
        for (int number = 0; number < children.length; number++) {
            Child child = children[number];
            if (child != null && child.family == family && pays(child, number, guest)) {
                sum += feeOf(child, number, guest);
            }
        }
        return sum;
    }

    private boolean pays(Child child, int number, int guest) {
        return child.admitted || number == guest;
    }

    private int feeOf(Child child, int number, int guest) {
        int group = child.group();
        if (!isGroup(group)) {
            return 0;
        }
        return 4 * child.bookedHours() * rates[group] * percentageOf(child, number, guest) / 100;
    }

    private int percentageOf(Child child, int number, int guest) {
        switch (rankOf(child, number, guest)) {
            case 0:
                return 100;
            case 1:
                return 70;
            default:
                return 40;
        }
    }

    private int rankOf(Child child, int number, int guest) {
        int rank = 0;
        for (int other = 0; other < children.length; other++) {
            Child sibling = children[other];
            if (sibling != null && sibling.family == child.family && pays(sibling, other, guest)) {
                boolean asOld = sibling.months == child.months;
                if (sibling.months > child.months || asOld && other < number) {
                    rank++;
                }
            }
        }
        return rank;
    }

    // ---- holiday cover

    public int addSubstitute(int days, int most, int wage) {
        if (days < 1 || days > 31 || most < 1 || most > DAYS || wage < 1 || wage > 1000) {
            return BAD;
        }
        return search.join(days, most, wage);
    }

    public int shortage(int week, int day) {
        if (!isWeek(week) || !isDay(day)) {
            return BAD;
        }
        noteNeeds();
        return shortageOf(day, week, NOBODY);
    }

    public int cover(int week) {
        if (!isWeek(week)) {
            return BAD;
        }
        noteNeeds();
        int cost = leastCostBelow(NO_LIMIT, week, NOBODY);
        if (cost == NO_COVER) {
            return STATE;
        }
        for (int day = 0; day < DAYS; day++) {
            keptCover[day] = search.bestSets[day];
        }
        return cost;
    }

    public int coverOf(int day) {
        return isDay(day) ? keptCover[day] : BAD;
    }

    public int cheapestHoliday(int educator) {
        Educator found = educatorAt(educator);
        if (found == null) {
            return BAD;
        }
        noteNeeds();
        int cheapest = NONE;
        int least = NO_LIMIT;
        for (int week = 0; week < WEEKS; week++) {
            if (!found.hasHoliday(week)) {
                int cost = leastCostBelow(least, week, educator);
                if (cost != NO_COVER) {
                    cheapest = week;
                    least = cost;
                }
            }
        }
        return cheapest;
    }

    /** Notes the needs of all hours, which are the same in each week. */
    private void noteNeeds() {
        for (int hour = 0; hour < needs.length; hour++) {
            needs[hour] = needIn(hour);
        }
    }

    /** The shortage of a day by the noted needs, if the educator with the number away is missing. */
    private int shortageOf(int day, int week, int away) {
        int shortage = 0;
        int first = hourOfWeek(day, 0);
        for (int hour = first; hour < first + HOURS; hour++) {
            shortage = Math.max(shortage, needs[hour] - staffLeft(hour, week, away));
        }
        return shortage;
    }

    private int staffLeft(int hour, int week, int away) {
        int count = 0;
        for (int number = 0; number < educators.length; number++) {
            Educator educator = educators[number];
            if (educator != null && number != away && !educator.hasHoliday(week)
                    && hasHour(educator.working, hour)) {
                count++;
            }
        }
        return count;
    }

    /** The least cost of a cover of the week by the noted needs, NO_COVER if none is below the limit. */
    private int leastCostBelow(int limit, int week, int away) {
        for (int day = 0; day < DAYS; day++) {
            search.shortages[day] = shortageOf(day, week, away);
        }
        return search.leastCostBelow(limit);
    }

    // ---- text

    public int type(int code) {
        if (code < 32 || code > 126) {
            return BAD;
        }
        return sheet.append((char) code) ? sheet.length : FULL;
    }

    public int clearText() {
        int length = sheet.length;
        sheet.length = 0;
        return length;
    }

    public int loadBookings(int child) {
        Child found = childAt(child);
        if (found == null) {
            return BAD;
        }
        int fault = sheet.read();
        if (fault != NO_FAULT) {
            return -10 - fault;
        }
        return rebook(found, sheet.booked);
    }

    // ---- checksum

    public long digest() {
        long h = 43081L;
        h = mix(h, month);
        h = mixChildren(h);
        h = mix(h, educators());
        h = mixHours(h);
        h = mix(h, unsafeHours());
        h = mix(h, income());
        for (int day = 0; day < DAYS; day++) {
            h = mix(h, coverOf(day));
        }
        for (int day = 0; day < DAYS; day++) {
            h = mix(h, shortage(0, day));
        }
        return mix(h, sheet.length);
    }

    private long mixChildren(long start) {
        long h = mix(start, children());
        for (int number = 0; number < children.length; number++) {
            Child child = children[number];
            if (child != null) {
                h = mix(h, number);
                h = mix(h, child.months);
                h = mix(h, child.admitted ? 1 : 0);
                h = mix(h, child.bookedHours());
                h = mix(h, child.admitted ? feeOf(child, number, NOBODY) : pointsOf(child));
            }
        }
        return h;
    }

    private long mixHours(long start) {
        long h = start;
        for (int hour = 0; hour < WEEK_HOURS; hour++) {
            int need = needIn(hour);
            h = mix(h, heads.total());
            h = mix(h, need);
            h = mix(h, staffIn(hour));
        }
        return h;
    }

    private static long mix(long h, int value) {
        return 31L * h + value;
    }

    // ---- ranges and sets of hours

    private static boolean isDay(int day) {
        return day >= 0 && day < DAYS;
    }

    private static boolean isHour(int hour) {
        return hour >= 0 && hour < HOURS;
    }

    private static boolean isWeek(int week) {
        return week >= 0 && week < WEEKS;
    }

    private static boolean isGroup(int group) {
        return group >= 0 && group < GROUPS;
    }

    private static boolean isSpan(int begin, int end) {
        return begin >= 0 && begin <= end && end <= HOURS;
    }

    private static int hourOfWeek(int day, int hour) {
        return day * HOURS + hour;
    }

    private static boolean hasHour(long hours, int hour) {
        return (hours >>> hour & 1L) != 0L;
    }

    private static long spanOf(int day, int begin, int end) {
        long span = (1L << end) - (1L << begin);
        return span << hourOfWeek(day, 0);
    }

    /** The hours with the span in place of those that they had on the day. */
    private static long withSpan(long hours, int day, int begin, int end) {
        return hours & ~spanOf(day, 0, HOURS) | spanOf(day, begin, end);
    }

    /** A child who has a place or waits for one. */
    private static final class Child {
        final int family;
        int months;
        int monthsWaited;
        boolean admitted;
        long booked;

        Child(int age, int family) {
            this.months = age;
            this.family = family;
        }

        int bookedHours() {
            return Long.bitCount(booked);
        }

        int group() {
            if (months < 24) {
                return 0;
            }
            return months < 36 ? 1 : 2;
        }

        void growOlder() {
            months++;
            if (!admitted) {
                monthsWaited++;
            }
        }
    }

    /** An educator; bit n of holidays is set if week n is a holiday week. */
    private static final class Educator {
        long working;
        long holidays;

        boolean hasHoliday(int week) {
            return (holidays >>> week & 1L) != 0L;
        }
    }

    /** How many children of each age group are in an hour. */
    private static final class Headcount {
        private final int[] counts = new int[GROUPS];

        void clear() {
            for (int group = 0; group < counts.length; group++) {
                counts[group] = 0;
            }
        }

        void add(int group) {
            if (isGroup(group)) {
                counts[group]++;
            }
        }

        int total() {
            return counts[0] + counts[1] + counts[2];
        }

        /** The need by the ratios, exact: all three fractions are brought to one denominator. */
        int needAt(int ratio0, int ratio1, int ratio2) {
            int whole = ratio0 * ratio1 * ratio2;
            if (whole <= 0) {
                return 0;
            }
            int parts = counts[0] * ratio1 * ratio2
                + counts[1] * ratio0 * ratio2
                + counts[2] * ratio0 * ratio1;
            return (parts + whole - 1) / whole;
        }
    }

    /** Somebody who can stand in on some days; bit d of days is set for day d. */
    private static final class Substitute {
        final int days;
        final int most;
        final int wage;
        int given;

        Substitute(int days, int most, int wage) {
            this.days = days;
            this.most = most;
            this.wage = wage;
        }

        boolean canTake(int day) {
            return (days >>> day & 1) != 0 && given < most;
        }
    }

    /** Finds the best cover for the shortages of five days. */
    private static final class CoverSearch {
        private final Substitute[] substitutes = new Substitute[MOST_SUBSTITUTES];
        private int count;
        private final int[] sets = new int[DAYS];
        private int bestCost;
        final int[] shortages = new int[DAYS];
        final int[] bestSets = new int[DAYS];

        int join(int days, int most, int wage) {
            if (count >= substitutes.length) {
                return FULL;
            }
            substitutes[count] = new Substitute(days, most, wage);
            count++;
            return count - 1;
        }

        /** Leaves the best cover in bestSets if there is one below the limit. */
        int leastCostBelow(int limit) {
            bestCost = limit;
            coverFrom(this, 0, 0);
            return bestCost < limit ? bestCost : NO_COVER;
        }

        /**
         * Tries all covers of the days from this one on. They come in the order of their sets, so
         * that the first of those with the least cost is the best one.
         */
        private static void coverFrom(CoverSearch search, int day, int cost) {
            if (cost >= search.bestCost) {
                return;
            }
            if (!isDay(day)) {
                search.keepSets(cost);
                return;
            }
            for (int set = 0; set < 1 << search.count; set++) {
                if (search.canGive(day, set)) {
                    search.sets[day] = set;
                    search.give(set, 1);
                    coverFrom(search, day + 1, cost + search.wagesOf(set));
                    search.give(set, -1);
                }
            }
        }

        private void keepSets(int cost) {
            bestCost = cost;
            for (int day = 0; day < DAYS; day++) {
                bestSets[day] = sets[day];
            }
        }

        private boolean canGive(int day, int set) {
            if (Integer.bitCount(set) != shortages[day]) {
                return false;
            }
            for (int number = 0; number < substitutes.length; number++) {
                Substitute substitute = substitutes[number];
                if (isIn(set, number) && (substitute == null || !substitute.canTake(day))) {
                    return false;
                }
            }
            return true;
        }

        /** Gives each substitute of the set one day more (1) or less (-1). */
        private void give(int set, int change) {
            for (int number = 0; number < substitutes.length; number++) {
                Substitute substitute = substitutes[number];
                if (substitute != null && isIn(set, number)) {
                    substitute.given += change;
                }
            }
        }

        private int wagesOf(int set) {
            int sum = 0;
            for (int number = 0; number < substitutes.length; number++) {
                Substitute substitute = substitutes[number];
                if (substitute != null && isIn(set, number)) {
                    sum += substitute.wage;
                }
            }
            return sum;
        }

        private static boolean isIn(int set, int number) {
            return (set >>> number & 1) != 0;
        }
    }

    /** The text, which can be read as a booking sheet. */
    private static final class Sheet {
        private final char[] signs = new char[60];
        int length;
        /** The hours that the last reading without a fault has found. */
        long booked;

        boolean append(char sign) {
            if (length >= signs.length) {
                return false;
            }
            signs[length] = sign;
            length++;
            return true;
        }

        /** Reads the text as a booking sheet and returns its fault, NO_FAULT if it is one. */
        int read() {
            booked = 0L;
            int day = -1;
            int begin = 0;
            int end = 0;
            for (int i = 0; i < length && i < signs.length; i++) {
                char sign = signs[i];
                switch (i % 4) {
                    case 0:
                        if (sign <= '0' + day || sign > '4') {
                            return i;
                        }
                        day = sign - '0';
                        break;
                    case 1:
                        if (sign < 'a' || sign > 'j') {
                            return i;
                        }
                        begin = sign - 'a';
                        break;
                    case 2:
                        if (sign <= 'a' + begin || sign > 'k') {
                            return i;
                        }
                        end = sign - 'a';
                        break;
                    default:
                        if (sign != ';') {
                            return i;
                        }
                        booked |= spanOf(day, begin, end);
                        break;
                }
            }
            return length % 4 == 0 ? NO_FAULT : length;
        }
    }
}
