/** The sentences of "Terms", each from both sides of its boundary, worked out by hand. */
public final class TermsTest {
    private static final int CENTS = 1_000_000_000;
    private static final int LAST = 3649;

    public static void main(String[] args) {
        readingsThatTell();
        testedThatTells();
        yearNine();
        comesToBetweenReadings();
        comesToOfSpans();
        changedBetween();
        factor();
        usesOfOneFlat();
        barred();
        basePart();
        goesByAreas();
        goesByUses();
        centsThatAreLeft();
        centsThatAreLeftByUse();
        useOfBarredFlats();
        sumOfUsesZero();
        asAllStandsThen();
        differences();
        livesByDays();
        livesByUse();
        livesByDaysOrUse();
        lastOneInTheYear();
        kindsApart();
        hugeUses();
        Check.end();
    }

    private static BillShares house(int... areas) {
        BillShares x = new BillShares();
        for (int area : areas) {
            x.flat(area, 0);
        }
        return x;
    }

    /** Readings as day, value, day, value, .. */
    private static void read(BillShares x, int meter, int... readings) {
        for (int i = 0; i < readings.length; i += 2) {
            x.reading(meter, readings[i], readings[i + 1]);
        }
    }

    /** A flat with one meter of factor 1 and these readings. */
    private static BillShares metered(int... readings) {
        BillShares x = house(1);
        x.meter(0, 0, 1, 1, LAST);
        read(x, 0, readings);
        return x;
    }

    private static void dueUse(String what, long want, int year, int... readings) {
        BillShares x = metered(readings);
        Check.due(what + " in year " + year, want, () -> x.use(0, year));
        Check.due(what + ", barred, in year " + year, want == BillShares.NONE ? 2 : 0, () -> x.barred(0, 0, year));
    }

    private static void readingsThatTell() {
        for (int year = 0; year < 9; year++) {
            int from = 365 * year;
            int to = from + 365;
            dueUse("at both ends", 20, year, from, 10, to, 30);
            dueUse("a day behind the first end", BillShares.NONE, year, from + 1, 10, to, 30);
            dueUse("a day ahead of the other end", BillShares.NONE, year, from, 10, to - 1, 30);
            dueUse("a day behind the other end", 365, year, from, 0, to + 1, 366);
            if (year > 0) {
                dueUse("a day ahead of the first end", 365, year, from - 1, 0, to, 366);
                dueUse("a day more on both sides", 365, year, from - 1, 0, to + 1, 367);
                dueUse("from the first day of all", 365, year, 0, 0, to, to);
            }
            dueUse("up to the last day of all", 365, year, from, 0, LAST, LAST - from);
            dueUse("at the first end alone", BillShares.NONE, year, from, 10);
            dueUse("at the other end alone", BillShares.NONE, year, to, 10);
            dueUse("not at all", BillShares.NONE, year);
        }
    }

    private static void testedThatTells() {
        for (int i = 0; i < 9; i++) {
            int year = i;
            BillShares x = metered(0, 0, LAST, LAST);
            int to = 365 * (year + 1);
            x.tested(0, to - 1);
            Check.due("tested a day less", BillShares.NONE, () -> x.use(0, year));
            Check.due("tested a day less, barred", 3, () -> x.barred(0, 0, year));
            x.tested(0, to);
            Check.due("tested up to the other end", 365, () -> x.use(0, year));
            Check.due("tested up to the other end, barred", 0, () -> x.barred(0, 0, year));
            x.tested(0, to + 1);
            Check.due("tested a day more", 365, () -> x.use(0, year));
            x.meter(0, 1, 1, 1, to - 1);
            x.meter(0, 2, 1, 1, to);
            read(x, 1, 0, 0, LAST, LAST);
            read(x, 2, 0, 0, LAST, LAST);
            Check.due("at first tested a day less", 3, () -> x.barred(0, 1, year));
            Check.due("at first tested up to the other end", 0, () -> x.barred(0, 2, year));
        }
    }

    /** Its other end is no day, so no meter tells it. */
    private static void yearNine() {
        BillShares x = metered(3285, 0, LAST, 364);
        Check.due("year 9 is told by none", BillShares.NONE, () -> x.use(0, 9));
        Check.due("year 9 has no readings as are needed", 2, () -> x.barred(0, 0, 9));
        x.tested(0, 0);
        Check.due("2 ahead of 3 in year 9", 2, () -> x.barred(0, 0, 9));
        x.cost(0, 9, 730);
        x.base(0, 50);
        x.run(9);
        x.moves(0, 3285);
        x.moves(0, 3286);
        x.moves(0, 3649);
        Check.due("year 9 by days, before it", 0, () -> x.part(0, 0, 9));
        Check.due("year 9 by days, the first one", 2, () -> x.part(0, 1, 9));
        Check.due("year 9 by days, between", 2 * 363, () -> x.part(0, 2, 9));
        Check.due("year 9 by days, the last one", 2, () -> x.part(0, 3, 9));
    }

    private static void comesToBetweenReadings() {
        // 365 is a day behind a: 1.99, 2 and 2.01 by then.
        dueUse("just under a whole number", 198, 1, 364, 0, 464, 199, 730, 199);
        dueUse("a whole number", 198, 1, 364, 0, 464, 200, 730, 200);
        dueUse("just over a whole number", 199, 1, 364, 0, 464, 201, 730, 201);
        // 365 is a day ahead of b: 98.01, 99 and 99.99 by then.
        dueUse("over, a day ahead of b", 98, 0, 0, 0, 266, 0, 366, 99);
        dueUse("whole, a day ahead of b", 99, 0, 0, 0, 266, 0, 366, 100);
        dueUse("under, a day ahead of b", 99, 0, 0, 0, 266, 0, 366, 101);
        dueUse("at a", 0, 0, 0, 7, 365, 7, 730, 100);
        dueUse("at a, the year behind", 93, 1, 0, 7, 365, 7, 730, 100);
        dueUse("at b", 93, 0, 0, 7, 365, 100, 730, 100);
        dueUse("at b, the year behind", 0, 1, 0, 7, 365, 100, 730, 100);
        dueUse("readings that follow day by day", 6, 1, 364, 0, 365, 1, 366, 2, 729, 5, 730, 7, 731, 9);
        // The most in one pair: 10^7 * 365 / 3649 = 1000274.04.
        dueUse("the most over the longest span", 1_000_274, 0, 0, 0, LAST, 10_000_000);
        dueUse("the most in one day", 10_000_000, 0, 0, 0, 364, 0, 365, 10_000_000);
        dueUse("no rise at the most", 0, 0, 0, 10_000_000, 365, 10_000_000);
    }

    private static void comesToOfSpans() {
        // 0.67, 1.33, 2: each end is rounded down, not their difference.
        dueUse("under one", 0, 0, 0, 0, 1095, 2);
        dueUse("from under one to over it", 1, 1, 0, 0, 1095, 2);
        dueUse("from over one to two", 1, 2, 0, 0, 1095, 2);
        dueUse("one a year", 1, 1, 0, 0, 1095, 3);
        // Each pair is rounded down by itself: 0.5 and 0.5 come to none; then both of both.
        dueUse("pairs by themselves", 1, 1, 364, 0, 366, 1, 729, 1, 731, 2);
        dueUse("pairs ahead of the year and behind it do not count", 3, 1, 0, 0, 100, 50, 365, 60, 730, 63, 900, 999);
    }

    private static void changedBetween() {
        BillShares x = metered(0, 5);
        x.changed(0, 100, 50, 10);
        x.reading(0, 365, 30);
        Check.due("45 of the old one, 20 of the new one", 65, () -> x.use(0, 0));
        BillShares y = metered(0, 5);
        y.changed(0, 365, 50, 10);
        y.reading(0, 730, 30);
        Check.due("changed at the other end", 45, () -> y.use(0, 0));
        Check.due("changed at the first end", 20, () -> y.use(0, 1));
        BillShares z = metered();
        z.changed(0, 0, 50, 10);
        z.changed(0, 365, 10, 10);
        Check.due("changed at both ends, with no rise", 0, () -> z.use(0, 0));
        Check.due("from the start to the most", 10, () -> z.correct(0, 365, 10_000_000));
        Check.due("which it tells", 9_999_990, () -> z.use(0, 0));
        Check.due("the end of a change that is the first of all tells nothing", 50, () -> z.correct(0, 0, 0));
        Check.due("so it stays", 9_999_990, () -> z.use(0, 0));
        // Up to a day between, from the start: (30 - 10) * 1 / 2.
        BillShares w = metered(0, 0);
        w.changed(0, 364, 100, 10);
        w.reading(0, 366, 30);
        Check.due("between a change and the one behind", 110, () -> w.use(0, 0));
    }

    private static void dueFactor(long want, int told, int above, int below) {
        BillShares x = house(1);
        x.meter(0, 0, above, below, LAST);
        read(x, 0, 0, 0, 100, told / 2, 365, told);
        Check.due(told + " times " + above + " / " + below, want, () -> x.use(0, 0));
    }

    private static void factor() {
        dueFactor(0, 999, 1, 1000);
        dueFactor(1, 1000, 1, 1000);
        dueFactor(1, 1999, 1, 1000);
        dueFactor(2, 2000, 1, 1000);
        dueFactor(1, 1, 1000, 999);
        dueFactor(998, 998, 1000, 1000);
        dueFactor(998, 998, 1000, 999);
        dueFactor(1000, 999, 1000, 999);
        dueFactor(1, 2, 1, 2);
        dueFactor(1, 3, 1, 2);
        dueFactor(0, 0, 1000, 1);
        dueFactor(1000, 1, 1000, 1);
        dueFactor(10_000_000_000L, 10_000_000, 1000, 1);
        dueFactor(10_000, 10_000_000, 1, 1000);
    }

    /** Each meter's use is rounded down by itself, and only meters of the kind count. */
    private static void usesOfOneFlat() {
        BillShares x = house(1, 1);
        x.meter(0, 0, 1, 2, LAST);
        x.meter(0, 0, 1, 2, LAST);
        x.meter(1, 0, 1, 1, LAST);
        x.meter(0, 1, 1000, 1, LAST);
        for (int meter = 0; meter < 4; meter++) {
            read(x, meter, 0, 0, 365, 1);
        }
        x.base(0, 0);
        x.cost(0, 0, 100);
        x.run(0);
        Check.due("two halves are none", 0, () -> x.line(0, 0, 0, 0));
        Check.due("so the other one gets all", 100, () -> x.line(1, 0, 0, 0));
        x.correct(1, 365, 2);
        x.run(0);
        Check.due("a half and a whole are one", 50, () -> x.line(0, 0, 0, 0));
        Check.due("so the other one gets half", 50, () -> x.line(1, 0, 0, 0));
    }

    private static void addMeter(BillShares x, int state) {
        int meter = x.meter(0, 0, 1, 1, state == 3 ? 364 : LAST);
        if (state != 2) {
            read(x, meter, 0, 0, 365, 1);
        }
    }

    private static void barred() {
        for (int first : new int[] {0, 2, 3}) {
            for (int second : new int[] {0, 2, 3}) {
                BillShares x = house(1, 1);
                x.meter(0, 1, 1, 1, LAST);
                x.meter(1, 0, 1, 1, LAST);
                Check.due("none of this kind of this flat", 1, () -> x.barred(0, 0, 0));
                addMeter(x, first);
                Check.due("one that is " + first, first, () -> x.barred(0, 0, 0));
                addMeter(x, second);
                Check.due("that are " + first + " and " + second, first != 0 ? first : second,
                        () -> x.barred(0, 0, 0));
            }
        }
        BillShares y = house(1);
        y.meter(0, 0, 1, 1, 0);
        Check.due("neither read nor tested", 2, () -> y.barred(0, 0, 0));
        read(y, 0, 0, 0, 365, 0);
        Check.due("read, but not tested", 3, () -> y.barred(0, 0, 0));
        y.tested(0, 365);
        Check.due("both", 0, () -> y.barred(0, 0, 0));
    }

    private static void dueBase(long want, int cents, int percent) {
        BillShares x = house(1);
        x.cost(0, 0, cents);
        x.base(0, percent);
        x.run(0);
        Check.due(percent + " in 100 of " + cents, want, () -> x.line(0, 0, 0, 1));
        Check.due("both parts of " + cents, cents, () -> x.line(0, 0, 0, 0));
    }

    private static void basePart() {
        dueBase(0, 99, 1);
        dueBase(1, 100, 1);
        dueBase(1, 199, 1);
        dueBase(0, 1, 99);
        dueBase(1, 1, 100);
        dueBase(0, 1, 0);
        dueBase(0, 0, 100);
        dueBase(0, CENTS, 0);
        dueBase(CENTS / 100, CENTS, 1);
        dueBase(990_000_000, CENTS, 99);
        dueBase(989_999_999, CENTS - 1, 99);
        dueBase(CENTS, CENTS, 100);
        dueBase(0, 3, 30);
        dueBase(1, 4, 30);
    }

    /** Flat 1 has the lesser rank, so what is rounded down of flat 0 shows. */
    private static void dueByAreas(int area, int otherArea, int cents, long first) {
        BillShares x = new BillShares();
        x.flat(area, 1);
        x.flat(otherArea, 0);
        x.cost(0, 0, cents);
        x.base(0, 100);
        x.run(0);
        Check.due(cents + " by areas, " + area, first, () -> x.line(0, 0, 0, 1));
        Check.due(cents + " by areas, " + otherArea, cents - first, () -> x.line(1, 0, 0, 1));
    }

    private static void goesByAreas() {
        dueByAreas(1, 999, 999, 0);
        dueByAreas(1, 999, 1000, 1);
        dueByAreas(1, 999, 1999, 1);
        dueByAreas(1, 999, 2000, 2);
        dueByAreas(1, 1000, 1000, 0);
        dueByAreas(1, 1000, 1001, 1);
        dueByAreas(1000, 1, 1000, 999);
        dueByAreas(1000, 1, 1001, 1000);
        dueByAreas(1000, 1000, CENTS, CENTS / 2);
        dueByAreas(1000, 1000, CENTS - 1, CENTS / 2 - 1);
        dueByAreas(1, 1, 1, 0);
        dueByAreas(1, 1, 0, 0);
    }

    private static void dueByUses(int use, int otherUse, int cents, long first) {
        BillShares x = new BillShares();
        x.flat(1000, 1);
        x.flat(1, 0);
        x.meter(0, 0, 1, 1, LAST);
        x.meter(1, 0, 1, 1, LAST);
        read(x, 0, 0, 0, 365, use);
        read(x, 1, 0, 0, 365, otherUse);
        x.cost(0, 0, cents);
        x.base(0, 0);
        x.run(0);
        Check.due(cents + " by uses, " + use, first, () -> x.line(0, 0, 0, 0));
        Check.due(cents + " by uses, " + otherUse, cents - first, () -> x.line(1, 0, 0, 0));
    }

    private static void goesByUses() {
        dueByUses(1, 999, 999, 0);
        dueByUses(1, 999, 1000, 1);
        dueByUses(1, 999, 1999, 1);
        dueByUses(999, 1, 999, 998);
        dueByUses(999, 1, 1000, 999);
        dueByUses(0, 1, CENTS, 0);
        dueByUses(1, 0, CENTS, CENTS);
        dueByUses(1, 9_999_999, CENTS, 100);
        dueByUses(1, 10_000_000, CENTS, 99);
        dueByUses(10_000_000, 10_000_000, CENTS - 1, CENTS / 2 - 1);
    }

    /** Flats of one area, with these ranks: what each gets of the base part, then of the used one. */
    private static void dueByRank(String what, int cents, int[] ranks, long... want) {
        for (int percent : new int[] {0, 100}) {
            BillShares x = new BillShares();
            for (int rank : ranks) {
                x.flat(7, rank);
            }
            x.cost(0, 0, cents);
            x.base(0, percent);
            x.run(0);
            for (int i = 0; i < want.length; i++) {
                int flat = i;
                Check.due(what + ", flat " + flat, want[flat], () -> x.line(flat, 0, 0, 0));
                Check.due(what + ", base of flat " + flat, percent == 0 ? 0 : want[flat], () -> x.line(flat, 0, 0, 1));
            }
        }
    }

    private static void centsThatAreLeft() {
        int[] ranks = {99, 0, 1, 0};
        dueByRank("nothing to share", 0, ranks, 0, 0, 0, 0);
        dueByRank("one left", 1, ranks, 0, 1, 0, 0);
        dueByRank("two left", 2, ranks, 0, 1, 0, 1);
        dueByRank("three left", 3, ranks, 0, 1, 1, 1);
        dueByRank("none left", 4, ranks, 1, 1, 1, 1);
        dueByRank("one left again", 5, ranks, 1, 2, 1, 1);
        dueByRank("of the most none left", CENTS, ranks, CENTS / 4, CENTS / 4, CENTS / 4, CENTS / 4);
        dueByRank("of one less three left", CENTS - 1, ranks, CENTS / 4 - 1, CENTS / 4, CENTS / 4, CENTS / 4);
        dueByRank("alike ranks", 2, new int[] {99, 99, 99}, 1, 1, 0);
        dueByRank("falling ranks", 2, new int[] {2, 1, 0}, 0, 1, 1);
        dueByRank("one flat", CENTS, new int[] {99}, CENTS);
        int[] many = new int[20];
        long[] want = new long[20];
        for (int flat = 0; flat < 20; flat++) {
            many[flat] = 19 - flat;
            want[flat] = flat == 0 ? 0 : 1;
        }
        dueByRank("19 left for 20", 19, many, want);
        want[0] = 1;
        dueByRank("20 for 20", 20, many, want);
        want[19] = 2;
        dueByRank("one left for 20", 21, many, want);
    }

    private static void centsThatAreLeftByUse() {
        BillShares x = new BillShares();
        x.flat(1, 0);
        x.flat(1, 1);
        x.flat(1, 1);
        for (int meter = 0; meter < 3; meter++) {
            x.meter(meter, 0, 1, 1, LAST);
            read(x, meter, 0, 0, 365, meter == 0 ? 0 : 1);
        }
        x.base(0, 0);
        x.cost(0, 0, 101);
        x.run(0);
        Check.due("a cent that is left goes to one without use too", 1, () -> x.line(0, 0, 0, 0));
        Check.due("half", 50, () -> x.line(1, 0, 0, 0));
        Check.due("the other half", 50, () -> x.line(2, 0, 0, 0));
        x.base(0, 50);
        x.cost(0, 0, 8);
        x.run(0);
        // 4 by areas: one each and one left, to flat 0; 4 by uses: none, two, two.
        Check.due("of the base part", 2, () -> x.line(0, 0, 0, 1));
        Check.due("of both, without use", 2, () -> x.line(0, 0, 0, 0));
        Check.due("of both, with use", 3, () -> x.line(1, 0, 0, 0));
    }

    /** Flat 0 tells this use; flat 1 is barred. What both get of the used part. */
    private static void dueBarred(String what, int area, int use, int barredArea, long told, long taken) {
        BillShares x = house(area, barredArea);
        x.meter(0, 0, 1, 1, LAST);
        read(x, 0, 0, 0, 365, use);
        x.base(0, 0);
        x.cost(0, 0, (int) (told + taken));
        x.run(0);
        Check.due(what + ", told", told, () -> x.line(0, 0, 0, 0));
        Check.due(what + ", barred", taken, () -> x.line(1, 0, 0, 0));
    }

    private static void useOfBarredFlats() {
        // 2 * 9 / 3 = 6; 2 * 10 / 3 = 6.67; 2 * 11 / 3 = 7.33; 2 * 12 / 3 = 8.
        dueBarred("whole", 3, 9, 2, 900, 600);
        dueBarred("rounded down by much", 3, 10, 2, 1000, 600);
        dueBarred("rounded down by little", 3, 11, 2, 1100, 700);
        dueBarred("whole again", 3, 12, 2, 1200, 800);
        dueBarred("just under one", 1000, 1, 999, 1000, 0);
        dueBarred("just one", 1000, 1, 1000, 500, 500);
        dueBarred("the most for the least", 1, 1, 1000, 1, 1000);
        BillShares x = house(1, 1, 1);
        x.meter(0, 0, 1, 1, LAST);
        x.meter(1, 0, 1, 1, LAST);
        read(x, 0, 0, 0, 365, 4);
        read(x, 1, 0, 0, 365, 0);
        x.base(0, 0);
        x.cost(0, 0, 600);
        x.run(0);
        Check.due("told", 400, () -> x.line(0, 0, 0, 0));
        Check.due("told, no use", 0, () -> x.line(1, 0, 0, 0));
        Check.due("barred: areas without use count", 200, () -> x.line(2, 0, 0, 0));
        x.tested(1, 364);
        x.run(0);
        Check.due("barred: areas of barred ones do not count", 200, () -> x.line(2, 0, 0, 0));
        Check.due("nor their meters", 200, () -> x.line(1, 0, 0, 0));
        x.meter(2, 0, 1, 1, LAST);
        read(x, 2, 0, 0, 365, 999);
        x.meter(2, 0, 1, 1, LAST);
        x.run(0);
        Check.due("nor one of two meters that tells", 200, () -> x.line(2, 0, 0, 0));
    }

    private static void sumOfUsesZero() {
        BillShares x = house(3, 1);
        x.base(0, 0);
        x.cost(0, 0, 100);
        x.run(0);
        Check.due("all barred, so by areas", 75, () -> x.line(0, 0, 0, 0));
        x.meter(0, 0, 1, 1, LAST);
        read(x, 0, 0, 0, 365, 0);
        x.run(0);
        Check.due("no use and a barred one, so by areas", 75, () -> x.line(0, 0, 0, 0));
        Check.due("which the barred one has too", 25, () -> x.line(1, 0, 0, 0));
        x.correct(0, 365, 1);
        x.run(0);
        Check.due("a use of one", 100, () -> x.line(0, 0, 0, 0));
        Check.due("of which the barred one takes none", 0, () -> x.line(1, 0, 0, 0));
        x.correct(0, 365, 0);
        x.meter(1, 0, 1, 1, LAST);
        read(x, 1, 0, 0, 365, 0);
        x.run(0);
        Check.due("all told, no use, so by areas", 25, () -> x.line(1, 0, 0, 0));
        x.correct(1, 365, 1);
        x.run(0);
        Check.due("all told, a use of one", 100, () -> x.line(1, 0, 0, 0));
    }

    private static void stays(BillShares x, String what, Check.Call call) {
        long before = x.line(0, 0, 0, 0);
        call.answer();
        Check.due(what + " does not change a run that was made", before, () -> x.line(0, 0, 0, 0));
    }

    private static void next(BillShares x, String what, long want) {
        x.run(0);
        Check.due(what + " changes the next one", want, () -> x.line(0, 0, 0, 0));
    }

    private static void asAllStandsThen() {
        BillShares x = house(1, 1);
        x.run(0);
        stays(x, "a cost", () -> x.cost(0, 0, 400));
        next(x, "a cost", 200);
        x.meter(0, 0, 1, 1, LAST);
        x.meter(1, 0, 1, 1, LAST);
        read(x, 0, 0, 0, 365, 3);
        x.reading(1, 0, 0);
        stays(x, "a reading", () -> x.reading(1, 365, 1));
        // Base 120: 60; used 280: 210.
        next(x, "a reading", 270);
        stays(x, "BASE", () -> x.base(0, 0));
        next(x, "BASE", 300);
        stays(x, "a correction", () -> x.correct(0, 365, 1));
        next(x, "a correction", 200);
        stays(x, "a correction of the other one", () -> x.correct(1, 365, 0));
        next(x, "a correction of the other one", 400);
        stays(x, "a test that is over", () -> x.tested(0, 364));
        next(x, "a test that is over", 200);
        stays(x, "a flat", () -> x.flat(2, 0));
        next(x, "a flat", 100);
        stays(x, "somebody who moves", () -> x.moves(0, 5));
        next(x, "somebody who moves not at all", 100);
        stays(x, "a payment", () -> x.prepaid(0, 0, 50));
        next(x, "a payment not at all", 100);
        Check.due("a payment counts at once", 50, () -> x.balance(0, 0));
    }

    private static void differences() {
        BillShares x = house(1);
        x.cost(0, 0, 10);
        x.run(0);
        Check.due("first edition", 0, () -> x.difference(0, 0));
        x.run(0);
        Check.due("no change", 0, () -> x.difference(0, 0));
        x.cost(0, 0, 11);
        x.run(0);
        Check.due("a cent more", 1, () -> x.difference(0, 0));
        x.cost(0, 0, 10);
        x.run(0);
        Check.due("a cent less", -1, () -> x.difference(0, 0));
        x.cost(0, 0, 0);
        x.run(0);
        Check.due("all less", -10, () -> x.difference(0, 0));
        for (int kind = 0; kind < 4; kind++) {
            x.cost(kind, 0, CENTS);
        }
        x.run(0);
        Check.due("the most", 4L * CENTS, () -> x.difference(0, 0));
        x.flat(1000, 0);
        x.cost(0, 1, 1001);
        x.run(1);
        Check.due("first edition of a year with a new flat", 0, () -> x.difference(1, 1));
        x.run(0);
        Check.due("the one before had it not", x.share(1, 0), () -> x.difference(1, 0));
        Check.due("so the other one has the less", x.share(0, 0) - 4L * CENTS, () -> x.difference(0, 0));
        x.run(0);
        Check.due("the one before had it", 0, () -> x.difference(1, 0));
        x.prepaid(0, 0, 5);
        x.run(0);
        Check.due("payments make no difference", 0, () -> x.difference(0, 0));
    }

    /** Cents of which all are base, in year 0, and somebody who moves in at a day: what both get. */
    private static void dueByDays(int cents, int day, long first, long second) {
        BillShares x = house(1);
        x.base(0, 100);
        x.cost(0, 0, cents);
        x.run(0);
        x.moves(0, day);
        Check.due(cents + " cents, the first one up to day " + day, first, () -> x.part(0, 0, 0));
        Check.due(cents + " cents, the other one from day " + day + " on", second, () -> x.part(0, 1, 0));
    }

    private static void livesByDays() {
        dueByDays(364, 1, 0, 364);
        dueByDays(365, 1, 1, 364);
        dueByDays(366, 1, 1, 365);
        dueByDays(729, 1, 1, 728);
        dueByDays(730, 1, 2, 728);
        dueByDays(365, 363, 363, 2);
        dueByDays(365, 364, 364, 1);
        dueByDays(365, 365, 365, 0);
        dueByDays(365, 366, 365, 0);
        dueByDays(365, LAST, 365, 0);
        dueByDays(1, 364, 0, 1);
        dueByDays(0, 100, 0, 0);
        dueByDays(CENTS, 364, 997_260_273, 2_739_727);
        for (int i = 1; i < 10; i++) {
            int year = i;
            BillShares x = house(1);
            x.base(0, 100);
            x.cost(0, year, 365);
            x.run(year);
            Check.due("alone", 365, () -> x.part(0, 0, year));
            x.moves(0, 365 * year);
            Check.due("moved out as the year began", 0, () -> x.part(0, 0, year));
            Check.due("moved in as the year began", 365, () -> x.part(0, 1, year));
            x.moves(0, 365 * year + 1);
            Check.due("one day", 1, () -> x.part(0, 1, year));
            Check.due("all other days", 364, () -> x.part(0, 2, year));
            x.moves(0, 365 * year + 364);
            Check.due("all days but two", 363, () -> x.part(0, 2, year));
            Check.due("the last day", 1, () -> x.part(0, 3, year));
        }
    }

    private static void livesByUse() {
        BillShares x = metered(0, 0, 100, 10, 365, 110);
        x.base(0, 0);
        x.cost(0, 0, 110);
        x.run(0);
        x.moves(0, 99);
        x.moves(0, 100);
        x.moves(0, 101);
        x.moves(0, 364);
        // Up to day 99: 9.9; up to 100: 10; up to 101: 10 + 0.38; up to 364: 10 + 99.6.
        Check.due("by use up to a day ahead of a reading", 9, () -> x.part(0, 0, 0));
        Check.due("by use up to its day", 1, () -> x.part(0, 1, 0));
        Check.due("by use up to a day behind it", 0, () -> x.part(0, 2, 0));
        Check.due("by use up to a day ahead of the end", 99, () -> x.part(0, 3, 0));
        Check.due("by use up to the end", 1, () -> x.part(0, 4, 0));
        // Days that are not of the year do not count, though the readings go on.
        x.reading(0, 730, 1110);
        x.cost(0, 1, 1000);
        x.run(1);
        Check.due("in the next year, before it", 0, () -> x.part(0, 3, 1));
        Check.due("in the next year", 1000, () -> x.part(0, 4, 1));
        Check.due("in the year as before", 1, () -> x.part(0, 4, 0));
        // Meter by meter with its factor: 5 of 11 and 1 of 2.
        BillShares y = house(1);
        y.base(0, 0);
        y.cost(0, 0, 130);
        y.meter(0, 0, 1, 2, LAST);
        y.meter(0, 0, 2, 1, LAST);
        read(y, 0, 0, 0, 100, 5, 365, 11);
        read(y, 1, 0, 0, 100, 1, 365, 4);
        y.run(0);
        y.moves(0, 100);
        // 2 + 2 of 5 + 8.
        Check.due("each meter's use rounded down", 40, () -> y.part(0, 0, 0));
        Check.due("and what is left", 90, () -> y.part(0, 1, 0));
    }

    private static void livesByDaysOrUse() {
        BillShares x = metered(0, 0, 73, 0, 365, 0);
        x.base(0, 0);
        x.cost(0, 0, 100);
        x.run(0);
        x.moves(0, 73);
        Check.due("no use in the year, so by days", 20, () -> x.part(0, 0, 0));
        x.correct(0, 365, 1);
        Check.due("a use of one, none of it in the days", 0, () -> x.part(0, 0, 0));
        Check.due("all of it in the others", 100, () -> x.part(0, 1, 0));
        x.tested(0, 364);
        Check.due("barred by now, so by days", 20, () -> x.part(0, 0, 0));
        x.tested(0, 365);
        Check.due("not barred by now, so by use", 0, () -> x.part(0, 0, 0));
        x.meter(0, 0, 1, 1, LAST);
        Check.due("a meter that is not read bars it", 20, () -> x.part(0, 0, 0));
        read(x, 1, 0, 0, 73, 1, 365, 1);
        Check.due("read, so by use of both", 50, () -> x.part(0, 0, 0));
        x.meter(0, 1, 1, 1, 0);
        Check.due("a meter of another kind does not bar it", 50, () -> x.part(0, 0, 0));
        BillShares y = house(1);
        y.base(0, 0);
        y.cost(0, 0, 100);
        y.run(0);
        y.moves(0, 73);
        Check.due("no meter, so by days", 20, () -> y.part(0, 0, 0));
        // The base part goes by days, whatever meters tell.
        y.base(0, 50);
        y.meter(0, 0, 1, 1, LAST);
        read(y, 0, 0, 0, 73, 0, 365, 9);
        y.run(0);
        Check.due("base by days, the rest by use", 10, () -> y.part(0, 0, 0));
        Check.due("base by days, the rest by use, the other one", 90, () -> y.part(0, 1, 0));
    }

    private static void lastOneInTheYear() {
        BillShares x = house(1);
        x.cost(0, 0, 2);
        x.base(0, 50);
        x.run(0);
        x.moves(0, 364);
        x.moves(0, 365);
        Check.due("one each is left of both parts", 0, () -> x.part(0, 0, 0));
        Check.due("for the last one who lives there in the year", 2, () -> x.part(0, 1, 0));
        Check.due("not for the last one of all", 0, () -> x.part(0, 2, 0));
        // By use all would be the first one's, and nothing is left.
        x.meter(0, 0, 1, 1, LAST);
        read(x, 0, 0, 0, 364, 9, 365, 9);
        Check.due("all of the use", 1, () -> x.part(0, 0, 0));
        Check.due("what is left of the base part", 1, () -> x.part(0, 1, 0));
        Check.due("nothing behind the year", 0, () -> x.part(0, 2, 0));
        // A use that is rounded away is nobody's: it goes to the last one, though he has none.
        BillShares y = house(1);
        y.base(0, 0);
        y.cost(0, 0, 100);
        y.meter(0, 0, 1, 2, LAST);
        read(y, 0, 0, 0, 100, 1, 200, 2, 365, 2);
        y.run(0);
        y.moves(0, 100);
        y.moves(0, 200);
        Check.due("a half is none", 0, () -> y.part(0, 0, 0));
        Check.due("another half is none", 0, () -> y.part(0, 1, 0));
        Check.due("all is left", 100, () -> y.part(0, 2, 0));
    }

    /** Each kind is shared and rounded down by itself; the share is their sum. */
    private static void kindsApart() {
        BillShares x = house(1, 1);
        for (int kind = 0; kind < 4; kind++) {
            x.cost(kind, 0, 2 * kind + 1);
            x.base(kind, 100);
        }
        x.run(0);
        for (int i = 0; i < 4; i++) {
            int kind = i;
            Check.due("line of kind " + kind, kind + 1, () -> x.line(0, kind, 0, 0));
            Check.due("line of kind " + kind + ", flat 1", kind, () -> x.line(1, kind, 0, 0));
        }
        Check.due("share with all cents that are left", 10, () -> x.share(0, 0));
        Check.due("share of the other one", 6, () -> x.share(1, 0));
        x.moves(0, 364);
        // 364 / 365 of 1, 2, 3 and 4, each rounded down.
        Check.due("part, kind by kind", 1 + 2 + 3, () -> x.part(0, 0, 0));
        Check.due("part of the last one", 4, () -> x.part(0, 1, 0));
    }

    /**
     * Uses that are 1000 times as much as told, where the cents times them come near what a long holds, and over it:
     * as 1000 is in all of them, it goes out of what is due.
     */
    private static void hugeUses() {
        for (int told : new int[] {8_589_934, 8_589_935, 9_223_371, 9_223_372, 9_223_373, 9_999_999, 10_000_000}) {
            for (int other : new int[] {1, 2, 3, 7, 11, 13, 17, 9_999_991, 10_000_000}) {
                dueHuge(told, other);
            }
        }
    }

    /** The cent that may be left goes to a flat that uses nothing, so that what is rounded down shows. */
    private static void dueHuge(int told, int other) {
        BillShares x = new BillShares();
        int[] uses = {told, other, 0};
        for (int flat = 0; flat < 3; flat++) {
            x.flat(1, flat == 2 ? 0 : 1);
            x.meter(flat, 0, 1000, 1, LAST);
            read(x, flat, 0, 0, 100, uses[flat] / 3, 365, uses[flat]);
        }
        x.base(0, 0);
        x.cost(0, 0, CENTS);
        x.run(0);
        long first = (long) CENTS * told / (told + other);
        long second = (long) CENTS * other / (told + other);
        Check.due("huge: " + told + " to " + other, first, () -> x.line(0, 0, 0, 0));
        Check.due("huge: " + other + " to " + told, second, () -> x.line(1, 0, 0, 0));
        Check.due("huge: what is left", CENTS - first - second, () -> x.line(2, 0, 0, 0));
        x.moves(0, 100);
        long part = first * (told / 3) / told;
        Check.due("huge: who moved out, of " + told, part, () -> x.part(0, 0, 0));
        Check.due("huge: who moved in, of " + told, first - part, () -> x.part(0, 1, 0));
    }
}
