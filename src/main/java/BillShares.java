import java.util.ArrayList;
import java.util.Arrays;

/** Bills of a house: costs shared among its flats by areas and by what meters tell, to the whole cent. */
public final class BillShares {
    public static final int NONE = -1;

    private static final int YEARS = 10;
    private static final int DAYS_OF_YEAR = 365;
    private static final int LAST_DAY = YEARS * DAYS_OF_YEAR - 1;
    private static final int KINDS = 4;
    private static final int MOST_FLATS = 20;
    private static final int MOST_METERS = 60;
    private static final int MOST_READINGS = 40;
    private static final int MOST_DWELLERS = 12;
    private static final int MOST_EDITIONS = 50;
    private static final int MOST_AREA = 1000;
    private static final int MOST_RANK = 99;
    private static final int MOST_FACTOR = 1000;
    private static final int MOST_VALUE = 10000000;
    private static final int MOST_CENTS = 1000000000;
    private static final int FIRST_BASE = 30;

    private static final int NOT_BARRED = 0;
    private static final int NO_METER = 1;
    private static final int NOT_READ = 2;
    private static final int NOT_TESTED = 3;

    // A factor under 2^30 times a number up to this one stays in a long.
    private static final long PLAIN_NUMBER = (1L << 33) - 1;

    private final ArrayList<Flat> flats = new ArrayList<>();
    private final ArrayList<Flat> flatsByRank = new ArrayList<>();
    private final ArrayList<Meter> meters = new ArrayList<>();
    private final int[] costs = new int[KINDS * YEARS];
    private final int[] bases = new int[KINDS];
    private final int[] editions = new int[YEARS];

    public BillShares() {
        Arrays.fill(bases, FIRST_BASE);
    }

    public int flat(int area, int rank) throws IllegalArgumentException, IllegalStateException {
        checkBounds(area, 1, MOST_AREA);
        checkBounds(rank, 0, MOST_RANK);
        if (flats.size() >= MOST_FLATS) {
            throw new IllegalStateException("there are 20 flats");
        }
        Flat home = new Flat(area, rank);
        flats.add(home);
        flatsByRank.add(placeByRank(rank), home);
        return flats.size() - 1;
    }

    public int meter(int flat, int kind, int above, int below, int tested)
            throws IllegalArgumentException, IllegalStateException {
        Flat home = flatAt(flat);
        checkKind(kind);
        checkBounds(above, 1, MOST_FACTOR);
        checkBounds(below, 1, MOST_FACTOR);
        checkDay(tested);
        if (meters.size() >= MOST_METERS) {
            throw new IllegalStateException("there are 60 meters");
        }
        Meter device = new Meter(kind, above, below, tested);
        meters.add(device);
        home.meters.add(device);
        return meters.size() - 1;
    }

    public int reading(int meter, int day, int v) throws IllegalArgumentException, IllegalStateException {
        return addReading(meter, day, v, NONE);
    }

    public int changed(int meter, int day, int end, int start) throws IllegalArgumentException, IllegalStateException {
        checkBounds(start, 0, MOST_VALUE);
        return addReading(meter, day, end, start);
    }

    public int correct(int meter, int day, int v) throws IllegalArgumentException {
        Meter device = meterAt(meter);
        checkDay(day);
        checkBounds(v, 0, MOST_VALUE);
        int index = device.indexOfDay(day);
        if (index == NONE || !device.fits(index, v)) {
            throw new IllegalArgumentException("no reading at this day, or values would fall");
        }
        return device.replaceValue(index, v);
    }

    public int tested(int meter, int day) throws IllegalArgumentException {
        Meter device = meterAt(meter);
        checkDay(day);
        int before = device.testedTo;
        device.testedTo = day;
        return before;
    }

    public int cost(int kind, int year, int cents) throws IllegalArgumentException {
        checkKind(kind);
        checkYear(year);
        checkBounds(cents, 0, MOST_CENTS);
        int place = kind * YEARS + year;
        int before = costs[place];
        costs[place] = cents;
        return before;
    }

    public int base(int kind, int percent) throws IllegalArgumentException {
        checkKind(kind);
        checkBounds(percent, 0, 100);
        int before = bases[kind];
        bases[kind] = percent;
        return before;
    }

    public int moves(int flat, int day) throws IllegalArgumentException, IllegalStateException {
        Flat home = flatAt(flat);
        checkDay(day);
        if (day <= home.latestMove()) {
            throw new IllegalArgumentException("not behind the day of the one before");
        }
        if (home.dwellers >= MOST_DWELLERS) {
            throw new IllegalStateException("there were 12 in this flat");
        }
        return home.takeIn(day);
    }

    public long prepaid(int flat, int year, int cents) throws IllegalArgumentException {
        Flat home = flatAt(flat);
        checkYear(year);
        checkBounds(cents, 1, MOST_CENTS);
        home.paid[year] += cents;
        return home.paid[year];
    }

    public int run(int year) throws IllegalArgumentException, IllegalStateException {
        checkYear(year);
        if (flats.isEmpty() || editions[year] >= MOST_EDITIONS) {
            throw new IllegalStateException("no flats, or 50 editions");
        }
        openBills(year);
        for (int kind = 0; kind < KINDS; kind++) {
            shareOut(kind, year);
        }
        editions[year]++;
        return editions[year];
    }

    public long use(int meter, int year) throws IllegalArgumentException {
        Meter device = meterAt(meter);
        checkYear(year);
        return device.whyBarred(year) == NOT_BARRED ? device.useBetween(startOf(year), endOf(year)) : NONE;
    }

    public int barred(int flat, int kind, int year) throws IllegalArgumentException {
        Flat home = flatAt(flat);
        checkKind(kind);
        checkYear(year);
        return home.whyBarred(kind, year);
    }

    public long line(int flat, int kind, int year, int what) throws IllegalArgumentException, IllegalStateException {
        Flat home = flatAt(flat);
        checkKind(kind);
        checkBounds(what, 0, 1);
        Bill bill = latestBill(home, year);
        return what == 1 ? bill.base[kind] : bill.base[kind] + bill.used[kind];
    }

    public long share(int flat, int year) throws IllegalArgumentException, IllegalStateException {
        return latestBill(flatAt(flat), year).total();
    }

    public long part(int flat, int who, int year) throws IllegalArgumentException, IllegalStateException {
        Flat home = flatAt(flat);
        checkBounds(who, 0, home.dwellers - 1);
        Bill bill = latestBill(home, year);
        int last = home.lastDwellerIn(year);
        if (who != last) {
            return partByFloors(home, bill, who, year);
        }
        // The last one bears the cents that rounding down leaves, so gets whatever the others do not.
        long rest = bill.total();
        for (int other = 0; other < last; other++) {
            rest -= partByFloors(home, bill, other, year);
        }
        return rest;
    }

    public long balance(int flat, int year) throws IllegalArgumentException, IllegalStateException {
        Flat home = flatAt(flat);
        return latestBill(home, year).total() - home.paid[year];
    }

    public long difference(int flat, int year) throws IllegalArgumentException, IllegalStateException {
        Bill bill = latestBill(flatAt(flat), year);
        return editions[year] == 1 ? 0 : bill.total() - bill.before;
    }

    public int edition(int year) throws IllegalArgumentException {
        checkYear(year);
        return editions[year];
    }

    private static void checkBounds(int number, int least, int most) {
        if (number < least || number > most) {
            throw new IllegalArgumentException("out of its bounds");
        }
    }

    private static void checkDay(int day) {
        checkBounds(day, 0, LAST_DAY);
    }

    private static void checkYear(int year) {
        checkBounds(year, 0, YEARS - 1);
    }

    private static void checkKind(int kind) {
        checkBounds(kind, 0, KINDS - 1);
    }

    private static int startOf(int year) {
        return DAYS_OF_YEAR * year;
    }

    private static int endOf(int year) {
        return DAYS_OF_YEAR * (year + 1);
    }

    /**
     * factor times number / whole, rounded down; 0 if whole is 0.
     * The factor is under 2^30. The number and the whole can come near 4.5 * 10^17 (the uses of 60 meters
     * with 40 readings each, taken over by 19 large barred flats from a tiny one), so the product may not
     * stay in a long. Then the factor is taken three bits at a time: a step is under 15 times the greater
     * of both, which does.
     */
    private static long portion(long factor, long number, long whole) {
        if (whole <= 0) {
            return 0;
        }
        if (number <= PLAIN_NUMBER) {
            return factor * number / whole;
        }
        long result = 0;
        long rest = 0;
        for (int shift = 27; shift >= 0; shift -= 3) {
            long step = rest * 8 + number * ((factor >> shift) & 7);
            result = result * 8 + step / whole;
            rest = step % whole;
        }
        return result;
    }

    private Flat flatAt(int number) {
        if (number < 0 || number >= flats.size()) {
            throw new IllegalArgumentException("no such flat");
        }
        return flats.get(number);
    }

    private Meter meterAt(int number) {
        if (number < 0 || number >= meters.size()) {
            throw new IllegalArgumentException("no such meter");
        }
        return meters.get(number);
    }

    private Bill latestBill(Flat home, int year) {
        checkYear(year);
        if (editions[year] == 0) {
            throw new IllegalStateException("no run of this year");
        }
        Bill bill = home.bills[year];
        if (bill == null) {
            throw new IllegalArgumentException("the flat was not there in the latest run");
        }
        return bill;
    }

    // Behind all flats of the same rank, which have lesser numbers.
    private int placeByRank(int rank) {
        int place = 0;
        while (place < flatsByRank.size() && flatsByRank.get(place).rank <= rank) {
            place++;
        }
        return place;
    }

    private int addReading(int meter, int day, int value, int start) {
        Meter device = meterAt(meter);
        checkDay(day);
        checkBounds(value, 0, MOST_VALUE);
        if (!device.mayEndWith(day, value)) {
            throw new IllegalArgumentException("not behind the latest reading, or less than it");
        }
        if (device.readings >= MOST_READINGS) {
            throw new IllegalStateException("the meter has 40 readings");
        }
        return device.append(day, value, start);
    }

    private void openBills(int year) {
        for (int i = 0; i < flats.size(); i++) {
            Bill bill = flats.get(i).billOf(year);
            bill.before = bill.total();
        }
    }

    private void shareOut(int kind, int year) {
        long cents = costs[kind * YEARS + year];
        long basePart = portion(cents, bases[kind], 100);
        weighByArea();
        dealOut(basePart);
        for (int i = 0; i < flats.size(); i++) {
            Flat home = flats.get(i);
            home.billOf(year).base[kind] = home.dealt;
        }
        weighByUse(kind, year);
        dealOut(cents - basePart);
        for (int i = 0; i < flats.size(); i++) {
            Flat home = flats.get(i);
            home.billOf(year).used[kind] = home.dealt;
        }
    }

    private void weighByArea() {
        for (int i = 0; i < flats.size(); i++) {
            Flat home = flats.get(i);
            home.weight = home.area;
        }
    }

    private void weighByUse(int kind, int year) {
        long uses = 0;
        long areas = 0;
        for (int i = 0; i < flats.size(); i++) {
            Flat home = flats.get(i);
            home.told = home.whyBarred(kind, year) == NOT_BARRED;
            if (home.told) {
                home.weight = home.useBetween(kind, startOf(year), endOf(year));
                uses += home.weight;
                areas += home.area;
            }
        }
        for (int i = 0; i < flats.size(); i++) {
            Flat home = flats.get(i);
            if (!home.told) {
                home.weight = portion(home.area, uses, areas);
            }
        }
        if (sumOfWeights() == 0) {
            weighByArea();
        }
    }

    private long sumOfWeights() {
        long sum = 0;
        for (int i = 0; i < flats.size(); i++) {
            sum += flats.get(i).weight;
        }
        return sum;
    }

    private void dealOut(long cents) {
        long whole = sumOfWeights();
        long left = cents;
        for (int i = 0; i < flats.size(); i++) {
            Flat home = flats.get(i);
            home.dealt = portion(cents, home.weight, whole);
            left -= home.dealt;
        }
        // Rounding down leaves less than one cent a flat, so one round deals them all.
        for (int i = 0; i < flatsByRank.size() && left > 0; i++) {
            flatsByRank.get(i).dealt++;
            left--;
        }
    }

    private static long partByFloors(Flat home, Bill bill, int who, int year) {
        int from = Math.max(home.movedIn(who), startOf(year));
        int to = Math.min(home.movedOut(who), endOf(year));
        if (to <= from) {
            return 0;
        }
        long sum = 0;
        for (int kind = 0; kind < KINDS; kind++) {
            sum += portion(bill.base[kind], to - from, DAYS_OF_YEAR);
            sum += usedPartBetween(home, bill.used[kind], kind, year, from, to);
        }
        return sum;
    }

    private static long usedPartBetween(Flat home, long cents, int kind, int year, int from, int to) {
        if (home.whyBarred(kind, year) == NOT_BARRED) {
            long whole = home.useBetween(kind, startOf(year), endOf(year));
            if (whole > 0) {
                return portion(cents, home.useBetween(kind, from, to), whole);
            }
        }
        return portion(cents, to - from, DAYS_OF_YEAR);
    }

    private static final class Flat {
        final int area;
        final int rank;
        final ArrayList<Meter> meters = new ArrayList<>();
        final int[] moveDays = new int[MOST_DWELLERS];
        int dwellers = 1;
        final long[] paid = new long[YEARS];
        // A year's latest bill; null as long as no run of it had this flat.
        final Bill[] bills = new Bill[YEARS];
        // What a run works with while it shares out one part: kept here so that no run makes rows anew.
        boolean told;
        long weight;
        long dealt;

        Flat(int area, int rank) {
            this.area = area;
            this.rank = rank;
        }

        int latestMove() {
            return movedIn(dwellers - 1);
        }

        int takeIn(int day) {
            if (dwellers < moveDays.length) {
                moveDays[dwellers] = day;
                dwellers++;
            }
            return dwellers - 1;
        }

        int movedIn(int who) {
            return who >= 0 && who < dwellers ? moveDays[who] : 0;
        }

        int movedOut(int who) {
            return who + 1 < dwellers ? movedIn(who + 1) : LAST_DAY + 1;
        }

        int lastDwellerIn(int year) {
            int last = 0;
            for (int who = 1; who < dwellers; who++) {
                if (moveDays[who] < endOf(year)) {
                    last = who;
                }
            }
            return last;
        }

        Bill billOf(int year) {
            if (bills[year] == null) {
                bills[year] = new Bill();
            }
            return bills[year];
        }

        int whyBarred(int kind, int year) {
            boolean metered = false;
            for (int i = 0; i < meters.size(); i++) {
                Meter device = meters.get(i);
                if (device.kind == kind) {
                    metered = true;
                    int why = device.whyBarred(year);
                    if (why != NOT_BARRED) {
                        return why;
                    }
                }
            }
            return metered ? NOT_BARRED : NO_METER;
        }

        long useBetween(int kind, int from, int to) {
            long sum = 0;
            for (int i = 0; i < meters.size(); i++) {
                Meter device = meters.get(i);
                if (device.kind == kind) {
                    sum += device.useBetween(from, to);
                }
            }
            return sum;
        }
    }

    private static final class Meter {
        final int kind;
        final int above;
        final int below;
        int testedTo;
        int readings = 0;
        final int[] days = new int[MOST_READINGS];
        final int[] values = new int[MOST_READINGS];
        // The value with which a new one began; NONE if the meter was not changed in that day.
        final int[] starts = new int[MOST_READINGS];

        Meter(int kind, int above, int below, int testedTo) {
            this.kind = kind;
            this.above = above;
            this.below = below;
            this.testedTo = testedTo;
        }

        boolean mayEndWith(int day, int value) {
            return readings == 0 || (day > days[readings - 1] && value >= valueBehind(readings - 1));
        }

        int append(int day, int value, int start) {
            if (readings < days.length) {
                days[readings] = day;
                values[readings] = value;
                starts[readings] = start;
                readings++;
            }
            return readings;
        }

        int indexOfDay(int day) {
            for (int i = 0; i < readings; i++) {
                if (days[i] == day) {
                    return i;
                }
            }
            return NONE;
        }

        boolean fits(int index, int value) {
            boolean risesTo = index == 0 || value >= valueBehind(index - 1);
            boolean risesFrom = index + 1 >= readings || starts[index] != NONE || value <= values[index + 1];
            return risesTo && risesFrom;
        }

        int replaceValue(int index, int value) {
            int before = values[index];
            values[index] = value;
            return before;
        }

        /** The value from which the meter goes on behind a reading. */
        int valueBehind(int index) {
            return starts[index] == NONE ? values[index] : starts[index];
        }

        int whyBarred(int year) {
            if (readings == 0 || days[0] > startOf(year) || days[readings - 1] < endOf(year)) {
                return NOT_READ;
            }
            return testedTo < endOf(year) ? NOT_TESTED : NOT_BARRED;
        }

        long useBetween(int from, int to) {
            long told = 0;
            for (int i = 0; i + 1 < readings; i++) {
                told += comesTo(i, to) - comesTo(i, from);
            }
            return portion(told, above, below);
        }

        /** What the meter comes to up to a day, between a reading and the one that follows it. */
        long comesTo(int index, int day) {
            long rise = values[index + 1] - valueBehind(index);
            if (day <= days[index]) {
                return 0;
            }
            if (day >= days[index + 1]) {
                return rise;
            }
            return rise * (day - days[index]) / (days[index + 1] - days[index]);
        }
    }

    private static final class Bill {
        final long[] base = new long[KINDS];
        final long[] used = new long[KINDS];
        // The share in the edition before; 0 if the flat was not in it.
        long before = 0;

        long total() {
            long sum = 0;
            for (int kind = 0; kind < KINDS; kind++) {
                sum += base[kind] + used[kind];
            }
            return sum;
        }
    }
}
