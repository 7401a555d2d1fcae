/** The rate book of a town: houses, lists of worth, events, bills and payments. */
public final class RateBook {
    public static final int BAD = -1, NO = -2, FULL = -3, NONE = -4;

    private static final int WARDS = 4, KINDS = 3, STREETS = 6, MOST_SIZE = 500, MOST_RENT = 100000;
    private static final int MOST_HOUSES = 40, MOST_LISTS = 10, MOST_EVENTS = 12;
    private static final int YEARS = 10, YEAR_DAYS = 365, DAYS = YEARS * YEAR_DAYS;
    private static final int MOST_CUT = 900, MOST_POUNDAGE = 3000;
    private static final int MOST_NEEDS = 100000000, MOST_PAID = 10000000;
    private static final int A_THOUSAND = 1000, BILL_BELOW = YEAR_DAYS * A_THOUSAND;
    private static final int RELIEF_WHOLE = 1200, RELIEF_ENDS = 1500, RELIEF_STEP = 5;
    private static final int EMPTY_FREE_DAYS = 90;
    private static final int UNIT_ABOVE = 10, UNIT_BELOW = 1;

    private static final int SIZE = 0, USE = 1, CUT = 2;
    private static final int IN_FULL = 0, EMPTY = 1, HALF = 2, CHARITY = 3;

    private static final int ALL = -1, NOBODY = -1;

    private final Town town;
    private final Lists lists;
    private final YearBook[] books;
    private final long[] yearSums;

    public RateBook() {
        town = new Town();
        lists = new Lists();
        yearSums = new long[MOST_HOUSES];
        books = new YearBook[YEARS];
        for (int i = 0; i < books.length; i++) {
            books[i] = new YearBook();
        }
    }

    public int house(int ward, int kind, int street, int size, int rent) {
        if (!isOf(ward, WARDS) || !isOf(kind, KINDS) || !isOf(street, STREETS)
                || !isWithin(size, 1, MOST_SIZE) || !isWithin(rent, 0, MOST_RENT)) {
            return BAD;
        }
        return town.add(ward, kind, street, size, rent);
    }

    public int rent(int house, int rent) {
        House its = town.at(house);
        if (its == null || !isWithin(rent, 0, MOST_RENT)) {
            return BAD;
        }
        int was = its.rent;
        its.rent = rent;
        return was;
    }

    public int unit(int kind, int street, int what) {
        if (!isOf(kind, KINDS) || !isOf(street, STREETS)) {
            return BAD;
        }
        Unit now = town.unitOf(kind, street, NOBODY);
        switch (what) {
            case 0: return now.above;
            case 1: return now.below;
            case 2: return now.rents;
            case 3: return now.house;
            default: return BAD;
        }
    }

    public int tested(int house) {
        House its = town.at(house);
        if (its == null) {
            return BAD;
        }
        return (int) town.unitOf(its.kind, its.street, its.number).times(its.size);
    }

    public int list(int day) {
        if (!isOf(day, DAYS)) {
            return BAD;
        }
        if (lists.reach(day)) {
            return NO;
        }
        return lists.isFull() ? FULL : lists.add(day, town);
    }

    public int event(int house, int day, int kind, int v) {
        House its = town.at(house);
        if (its == null || !isOf(day, DAYS) || !isEvent(kind, v)) {
            return BAD;
        }
        if (its.events.isFull()) {
            return FULL;
        }
        its.events.add(day, kind, v);
        return its.events.told;
    }

    public int appeal(int house, int day, int cut, boolean like) {
        House its = town.at(house);
        if (its == null || !isOf(day, DAYS) || !isEvent(CUT, cut)) {
            return BAD;
        }
        return like ? cutLike(its, day, cut) : cutOne(its, day, cut);
    }

    public int strike(int house) {
        House its = town.at(house);
        if (its == null) {
            return BAD;
        }
        if (its.events.told == 0) {
            return NO;
        }
        its.events.dropLatestTold();
        return its.events.told;
    }

    public int on(int house, int day, int what) {
        House its = town.at(house);
        if (its == null || !isOf(day, DAYS)) {
            return BAD;
        }
        switch (what) {
            case 0: return its.sizeOn(day);
            case 1: return its.useOn(day);
            case 2: return worthOn(its, day);
            case 3: return countedOn(its, day);
            case 4: return relieved(countedOn(its, day));
            case 5: return lists.standingOn(day);
            default: return BAD;
        }
    }

    public long year(int house, int year) {
        House its = town.at(house);
        return its == null || !isOf(year, YEARS) ? BAD : sumOfYear(its, year);
    }

    public int bill(int house, int year, int poundage) {
        House its = town.at(house);
        if (its == null || !isOf(year, YEARS) || !isWithin(poundage, 0, MOST_POUNDAGE)) {
            return BAD;
        }
        return billFor(sumOfYear(its, year), poundage);
    }

    public int poundage(int year, int needs) {
        if (!isOf(year, YEARS) || !isWithin(needs, 0, MOST_NEEDS)) {
            return BAD;
        }
        readYearSums(year);
        return leastPoundage(needs);
    }

    public int struck(int year, int needs) {
        YearBook book = bookOf(year);
        if (book == null || !isWithin(needs, 0, MOST_NEEDS)) {
            return BAD;
        }
        readYearSums(year);
        int found = leastPoundage(needs);
        if (found == NONE) {
            return NO;
        }
        book.isStruck = true;
        book.needs = needs;
        book.thousandths = found;
        for (int i = 0; i < town.size && i < yearSums.length; i++) {
            book.putBilled(i, billFor(yearSums[i], found));
        }
        return found;
    }

    public int pay(int house, int year, int sum) {
        YearBook book = bookOf(year);
        if (town.at(house) == null || book == null || !isWithin(sum, 1, MOST_PAID)) {
            return BAD;
        }
        int inAll = book.paidBy(house) + sum;
        if (inAll > MOST_PAID) {
            return FULL;
        }
        book.putPaid(house, inAll);
        return inAll;
    }

    public int paid(int house, int year, int what) {
        YearBook book = bookOf(year);
        if (town.at(house) == null || book == null || !isOf(what, 2)) {
            return BAD;
        }
        return what == 0 ? book.billedTo(house) : book.paidBy(house);
    }

    public int owed(int house, int what) {
        if (town.at(house) == null || !isOf(what, 2)) {
            return BAD;
        }
        int together = 0;
        for (int i = 0; i < YEARS; i++) {
            int open = openOf(house, i);
            together += Math.max(0, what == 0 ? open : -open);
        }
        return together;
    }

    public int ward(int ward, int year, int what) {
        YearBook book = bookOf(year);
        if (!isWithin(ward, ALL, WARDS - 1) || book == null || !isOf(what, 4)) {
            return BAD;
        }
        if (!book.isStruck) {
            return NO;
        }
        switch (what) {
            case 0: return billedIn(ward, book);
            case 1: return paidIn(ward, book);
            case 2: return book.thousandths;
            default: return book.needs;
        }
    }

    public int count(int what) {
        switch (what) {
            case 0: return town.size;
            case 1: return lists.made;
            case 2: return town.eventsTold();
            case 3: return struckYears();
            case 4: return town.rentsKnown();
            default: return BAD;
        }
    }

    private static boolean isWithin(int number, int least, int most) {
        return number >= least && number <= most;
    }

    private static boolean isOf(int number, int howMany) {
        return number >= 0 && number < howMany;
    }

    private static int sooner(int change, int day, int next) {
        return change > day && change < next ? change : next;
    }

    private static boolean isEvent(int kind, int v) {
        switch (kind) {
            case SIZE: return isWithin(v, 1, MOST_SIZE);
            case USE: return isWithin(v, IN_FULL, CHARITY);
            case CUT: return isWithin(v, 1, MOST_CUT);
            default: return false;
        }
    }

    private static int cutOne(House its, int day, int cut) {
        if (its.events.isFull()) {
            return FULL;
        }
        its.events.add(day, CUT, cut);
        return 1;
    }

    private int cutLike(House its, int day, int cut) {
        for (int i = 0; i < town.size; i++) {
            House other = town.at(i);
            if (other != null && other.isLike(its) && other.events.isFull()) {
                return FULL;
            }
        }
        int got = 0;
        for (int i = 0; i < town.size; i++) {
            House other = town.at(i);
            if (other != null && other.isLike(its)) {
                other.events.add(day, CUT, cut);
                got++;
            }
        }
        return got;
    }

    private int worthOn(House its, int day) {
        RateList list = lists.at(lists.standingOn(day));
        if (list == null) {
            return 0;
        }
        Unit unit = list.unitFor(its.kind, its.street);
        if (unit == null) {
            return 0;
        }
        return (int) its.events.cutDown(unit.times(its.sizeOn(day)), list.day, day);
    }

    private int countedOn(House its, int day) {
        int worth = worthOn(its, day);
        Event latest = its.events.latestOf(USE, day);
        if (latest == null) {
            return worth;
        }
        switch (latest.value) {
            case EMPTY: return day - latest.day < EMPTY_FREE_DAYS ? 0 : worth / 2;
            case HALF: return worth / 2;
            case CHARITY: return worth / 5;
            default: return worth;
        }
    }

    private static int relieved(int counted) {
        if (counted <= RELIEF_WHOLE) {
            return 0;
        }
        return counted <= RELIEF_ENDS ? RELIEF_STEP * (counted - RELIEF_WHOLE) : counted;
    }

    /** Goes from change to change, as every day between two changes counts the same. */
    private long sumOfYear(House its, int year) {
        int end = (year + 1) * YEAR_DAYS;
        int day = year * YEAR_DAYS;
        long sum = 0;
        for (int part = 0; part < YEAR_DAYS && day < end; part++) {
            int next = lists.nextChange(day, its.events.nextChange(day, end));
            sum += (long) (next - day) * relieved(countedOn(its, day));
            day = next;
        }
        return sum;
    }

    private static int billFor(long yearSum, int thousandths) {
        return (int) (yearSum * thousandths / BILL_BELOW);
    }

    private void readYearSums(int year) {
        for (int i = 0; i < yearSums.length; i++) {
            House its = town.at(i);
            yearSums[i] = its == null ? 0 : sumOfYear(its, year);
        }
    }

    private long billsTogether(int thousandths) {
        long together = 0;
        for (int i = 0; i < yearSums.length; i++) {
            together += billFor(yearSums[i], thousandths);
        }
        return together;
    }

    /** Bills never fall as the poundage rises, so each step may be kept while one less is too little. */
    private int leastPoundage(int needs) {
        if (billsTogether(MOST_POUNDAGE) < needs) {
            return NONE;
        }
        int least = 0;
        for (int step = 2048; step > 0; step /= 2) {
            if (least + step <= MOST_POUNDAGE && billsTogether(least + step - 1) < needs) {
                least += step;
            }
        }
        return least;
    }

    private YearBook bookOf(int year) {
        return year >= 0 && year < books.length ? books[year] : null;
    }

    /** What is still open of a bill: below 0 what was paid beyond it, 0 where there was no bill. */
    private int openOf(int house, int year) {
        YearBook book = bookOf(year);
        if (book == null || book.billedTo(house) == NONE) {
            return 0;
        }
        return book.billedTo(house) - book.paidBy(house);
    }

    private int billedIn(int ward, YearBook book) {
        int together = 0;
        for (int i = 0; i < town.size; i++) {
            if (town.isIn(i, ward)) {
                together += Math.max(0, book.billedTo(i));
            }
        }
        return together;
    }

    private int paidIn(int ward, YearBook book) {
        int together = 0;
        for (int i = 0; i < town.size; i++) {
            if (town.isIn(i, ward)) {
                together += book.paidBy(i);
            }
        }
        return together;
    }

    private int struckYears() {
        int found = 0;
        for (int i = 0; i < books.length; i++) {
            YearBook book = books[i];
            if (book != null && book.isStruck) {
                found++;
            }
        }
        return found;
    }

    /** A fraction, and of how many rents and of which house it was taken. */
    private static final class Unit {
        final int above;
        final int below;
        final int rents;
        final int house;

        Unit(int above, int below, int rents, int house) {
            this.above = above;
            this.below = below;
            this.rents = rents;
            this.house = house;
        }

        long times(int size) {
            return below <= 0 ? 0 : (long) size * above / below;
        }
    }

    /** What is told of a house from a day on; its number says when it was told. */
    private static final class Event {
        final int number;
        final int day;
        final int kind;
        final int value;

        Event(int number, int day, int kind, int value) {
            this.number = number;
            this.day = day;
            this.kind = kind;
            this.value = value;
        }
    }

    /** The events of one house, kept by days, of one day as told. */
    private static final class Events {
        private final Event[] byDay;
        private int told;

        Events() {
            byDay = new Event[MOST_EVENTS];
        }

        boolean isFull() {
            return told >= byDay.length;
        }

        void add(int day, int kind, int value) {
            if (told < 0 || told >= byDay.length) {
                return;
            }
            int place = told;
            for (; place > 0; place--) {
                Event ahead = byDay[place - 1];
                if (ahead != null && ahead.day <= day) {
                    break;
                }
                byDay[place] = ahead;
            }
            byDay[place] = new Event(told, day, kind, value);
            told++;
        }

        void dropLatestTold() {
            if (told <= 0) {
                return;
            }
            boolean closesUp = false;
            for (int i = 0; i < byDay.length; i++) {
                Event its = byDay[i];
                closesUp = closesUp || (its != null && its.number == told - 1);
                if (closesUp) {
                    byDay[i] = i + 1 < byDay.length ? byDay[i + 1] : null;
                }
            }
            told--;
        }

        Event latestOf(int kind, int day) {
            Event latest = null;
            for (int i = 0; i < byDay.length; i++) {
                Event its = byDay[i];
                if (its != null && its.kind == kind && its.day <= day) {
                    latest = its;
                }
            }
            return latest;
        }

        long cutDown(long worth, int first, int last) {
            long left = worth;
            for (int i = 0; i < byDay.length; i++) {
                Event its = byDay[i];
                if (its != null && its.kind == CUT && its.day >= first && its.day <= last) {
                    left = left * (A_THOUSAND - its.value) / A_THOUSAND;
                }
            }
            return left;
        }

        int nextChange(int day, int end) {
            int next = end;
            for (int i = 0; i < byDay.length; i++) {
                Event its = byDay[i];
                if (its != null) {
                    // The second day matters for EMPTY alone; a part too many adds up to the same.
                    next = sooner(its.day, day, next);
                    next = sooner(its.day + EMPTY_FREE_DAYS, day, next);
                }
            }
            return next;
        }
    }

    private static final class House {
        final int number;
        final int ward;
        final int kind;
        final int street;
        final int size;
        final Events events;
        int rent;

        House(int number, int ward, int kind, int street, int size, int rent) {
            this.number = number;
            this.ward = ward;
            this.kind = kind;
            this.street = street;
            this.size = size;
            this.rent = rent;
            events = new Events();
        }

        boolean isLike(House other) {
            return kind == other.kind && street == other.street;
        }

        /** Whether its rent is one of those that the unit of a kind and street (or ALL) is taken of. */
        boolean tells(int ofKind, int ofStreet, int leftOut) {
            return rent > 0 && number != leftOut
                    && kind == ofKind && (ofStreet == ALL || street == ofStreet);
        }

        boolean hasLesserRent(House other) {
            long mine = (long) rent * other.size;
            long theirs = (long) other.rent * size;
            return mine < theirs || (mine == theirs && number < other.number);
        }

        int sizeOn(int day) {
            Event latest = events.latestOf(SIZE, day);
            return latest == null ? size : latest.value;
        }

        int useOn(int day) {
            Event latest = events.latestOf(USE, day);
            return latest == null ? IN_FULL : latest.value;
        }
    }

    /** All houses as they came, and the units that their rents give. */
    private static final class Town {
        private final House[] houses;
        private int size;

        Town() {
            houses = new House[MOST_HOUSES];
        }

        House at(int number) {
            return number >= 0 && number < houses.length ? houses[number] : null;
        }

        int add(int ward, int kind, int street, int itsSize, int rent) {
            int number = size;
            if (number < 0 || number >= houses.length) {
                return FULL;
            }
            houses[number] = new House(number, ward, kind, street, itsSize, rent);
            size++;
            return number;
        }

        boolean isIn(int number, int ward) {
            House its = at(number);
            return its != null && (ward == ALL || its.ward == ward);
        }

        int eventsTold() {
            int together = 0;
            for (int i = 0; i < houses.length; i++) {
                House its = houses[i];
                together += its == null ? 0 : its.events.told;
            }
            return together;
        }

        int rentsKnown() {
            int known = 0;
            for (int i = 0; i < houses.length; i++) {
                House its = houses[i];
                known += its != null && its.rent > 0 ? 1 : 0;
            }
            return known;
        }

        Unit unitOf(int kind, int street, int leftOut) {
            int rents = rentsOf(kind, street, leftOut);
            int where = street;
            if (rents == 0) {
                where = ALL;
                rents = rentsOf(kind, ALL, leftOut);
            }
            House middle = middleOf(kind, where, leftOut, (rents - 1) / 2);
            if (middle == null) {
                return new Unit(UNIT_ABOVE, UNIT_BELOW, 0, NONE);
            }
            return new Unit(middle.rent, middle.size, rents, middle.number);
        }

        private int rentsOf(int kind, int street, int leftOut) {
            int found = 0;
            for (int i = 0; i < houses.length; i++) {
                House its = houses[i];
                found += its != null && its.tells(kind, street, leftOut) ? 1 : 0;
            }
            return found;
        }

        private House middleOf(int kind, int street, int leftOut, int lesser) {
            for (int i = 0; i < houses.length; i++) {
                House its = houses[i];
                if (its != null && its.tells(kind, street, leftOut)
                        && lesserThan(its, kind, street, leftOut) == lesser) {
                    return its;
                }
            }
            return null;
        }

        private int lesserThan(House its, int kind, int street, int leftOut) {
            int found = 0;
            for (int i = 0; i < houses.length; i++) {
                House other = houses[i];
                found += other != null && other.tells(kind, street, leftOut)
                        && other.hasLesserRent(its) ? 1 : 0;
            }
            return found;
        }
    }

    /** The units of all kinds and streets, as they were when the list was made. */
    private static final class RateList {
        final int day;
        private final Unit[] units;

        RateList(int day, Town town) {
            this.day = day;
            units = new Unit[KINDS * STREETS];
            for (int i = 0; i < units.length; i++) {
                units[i] = town.unitOf(i / STREETS, i % STREETS, NOBODY);
            }
        }

        Unit unitFor(int kind, int street) {
            int place = kind * STREETS + street;
            return place >= 0 && place < units.length ? units[place] : null;
        }
    }

    /** The lists, each with a day above those ahead. */
    private static final class Lists {
        private final RateList[] byDay;
        private int made;

        Lists() {
            byDay = new RateList[MOST_LISTS];
        }

        RateList at(int number) {
            return number >= 0 && number < byDay.length ? byDay[number] : null;
        }

        boolean isFull() {
            return made >= byDay.length;
        }

        boolean reach(int day) {
            RateList latest = at(made - 1);
            return latest != null && latest.day >= day;
        }

        int add(int day, Town town) {
            int number = made;
            if (number < 0 || number >= byDay.length) {
                return FULL;
            }
            byDay[number] = new RateList(day, town);
            made++;
            return number;
        }

        int standingOn(int day) {
            int standing = NONE;
            for (int i = 0; i < byDay.length; i++) {
                RateList its = byDay[i];
                if (its != null && its.day <= day) {
                    standing = i;
                }
            }
            return standing;
        }

        int nextChange(int day, int end) {
            int next = end;
            for (int i = 0; i < byDay.length; i++) {
                RateList its = byDay[i];
                if (its != null) {
                    next = sooner(its.day, day, next);
                }
            }
            return next;
        }
    }

    /** What a year was struck for, and what each house was billed and paid for it. */
    private static final class YearBook {
        private final int[] billed;
        private final int[] payments;
        boolean isStruck;
        int needs;
        int thousandths;

        YearBook() {
            billed = new int[MOST_HOUSES];
            payments = new int[MOST_HOUSES];
            for (int i = 0; i < billed.length; i++) {
                billed[i] = NONE;
            }
        }

        int billedTo(int house) {
            return house >= 0 && house < billed.length ? billed[house] : NONE;
        }

        int paidBy(int house) {
            return house >= 0 && house < payments.length ? payments[house] : 0;
        }

        void putBilled(int house, int sum) {
            if (house >= 0 && house < billed.length) {
                billed[house] = sum;
            }
        }

        void putPaid(int house, int sum) {
            if (house >= 0 && house < payments.length) {
                payments[house] = sum;
            }
        }
    }
}
