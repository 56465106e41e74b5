/** For each promise of the document ordinary inputs, the edges that it names, and wrong inputs, worked out by hand. */
public final class PromiseTest {
    private static final int CENTS = 1_000_000_000;
    private static final int VALUE = 10_000_000;

    public static void main(String[] args) {
        newObject();
        flat();
        meter();
        reading();
        changed();
        correct();
        tested();
        cost();
        base();
        moves();
        prepaid();
        run();
        use();
        barred();
        line();
        linesByUse();
        linesOfHugeUses();
        share();
        part();
        partByUse();
        partOfHugeUses();
        balance();
        difference();
        edition();
        Check.end();
    }

    /** A house with flats of these areas, all of rank 0. */
    private static BillShares house(int... areas) {
        BillShares x = new BillShares();
        for (int area : areas) {
            x.flat(area, 0);
        }
        return x;
    }

    /** A new meter of factor 1 that tells year 0 and goes from 0 up to a value in it. */
    private static int toldMeter(BillShares x, int flat, int kind, int value) {
        int meter = x.meter(flat, kind, 1, 1, 3649);
        x.reading(meter, 0, 0);
        x.reading(meter, 365, value);
        return meter;
    }

    private static void newObject() {
        BillShares x = new BillShares();
        for (int kind = 0; kind < 4; kind++) {
            int k = kind;
            Check.due("1: base at first", 30, () -> x.base(k, 30));
            for (int year = 0; year < 10; year++) {
                int y = year;
                Check.due("1: cost at first", 0, () -> x.cost(k, y, 0));
                Check.due("1: edition at first", 0, () -> x.edition(y));
            }
        }
        Check.state("1: run without flats", () -> x.run(0));
        Check.argument("1: no flat to move in", () -> x.moves(0, 1));
        Check.argument("1: no meter to read", () -> x.reading(0, 0, 0));
        Check.argument("1: no flat ahead of no run", () -> x.share(0, 0));
        BillShares other = house(1);
        Check.due("1: objects share nothing", 0, () -> x.flat(1, 0));
        Check.due("1: nor does the other one", 1, () -> other.flat(1, 0));
    }

    private static void flat() {
        BillShares x = new BillShares();
        Check.argument("2: area 0", () -> x.flat(0, 0));
        Check.argument("2: area 1001", () -> x.flat(1001, 0));
        Check.argument("2: rank -1", () -> x.flat(1, -1));
        Check.argument("2: rank 100", () -> x.flat(1, 100));
        for (int i = 0; i < 20; i++) {
            int n = i;
            Check.due("2: flat's number", n, () -> x.flat(n % 2 == 0 ? 1 : 1000, n % 3 == 0 ? 0 : 99));
        }
        Check.state("2: there are 20", () -> x.flat(1, 0));
        Check.argument("2: argument ahead of state", () -> x.flat(0, 0));
        Check.argument("2: still 20", () -> x.moves(20, 1));
        Check.due("2: the last one is there", 1, () -> x.moves(19, 1));
    }

    private static void meter() {
        BillShares x = house(1);
        Check.argument("3: no such flat", () -> x.meter(1, 0, 1, 1, 0));
        Check.argument("3: flat -1", () -> x.meter(-1, 0, 1, 1, 0));
        Check.argument("3: kind -1", () -> x.meter(0, -1, 1, 1, 0));
        Check.argument("3: kind 4", () -> x.meter(0, 4, 1, 1, 0));
        Check.argument("3: above 0", () -> x.meter(0, 0, 0, 1, 0));
        Check.argument("3: above 1001", () -> x.meter(0, 0, 1001, 1, 0));
        Check.argument("3: below 0", () -> x.meter(0, 0, 1, 0, 0));
        Check.argument("3: below 1001", () -> x.meter(0, 0, 1, 1001, 0));
        Check.argument("3: tested -1", () -> x.meter(0, 0, 1, 1, -1));
        Check.argument("3: tested 3650", () -> x.meter(0, 0, 1, 1, 3650));
        Check.due("3: least numbers", 0, () -> x.meter(0, 0, 1, 1, 0));
        Check.due("3: tested up to 0", 0, () -> x.tested(0, 5));
        Check.due("3: most numbers", 1, () -> x.meter(0, 3, 1000, 1000, 3649));
        Check.due("3: tested up to 3649", 3649, () -> x.tested(1, 5));
        Check.argument("3: no meter 2 yet", () -> x.tested(2, 5));
        for (int i = 2; i < 60; i++) {
            int n = i;
            Check.due("3: meter's number", n, () -> x.meter(0, n % 4, 1, 1, 3649));
        }
        Check.state("3: there are 60", () -> x.meter(0, 0, 1, 1, 0));
        Check.argument("3: argument ahead of state", () -> x.meter(0, 0, 1, 0, 0));
    }

    private static void reading() {
        BillShares x = house(1);
        x.meter(0, 0, 1, 1, 3649);
        Check.argument("4: no such meter", () -> x.reading(1, 0, 0));
        Check.argument("4: meter -1", () -> x.reading(-1, 0, 0));
        Check.argument("4: day -1", () -> x.reading(0, -1, 0));
        Check.argument("4: day 3650", () -> x.reading(0, 3650, 0));
        Check.argument("4: value -1", () -> x.reading(0, 0, -1));
        Check.argument("4: value over 10^7", () -> x.reading(0, 0, VALUE + 1));
        Check.due("4: the first one", 1, () -> x.reading(0, 10, 100));
        Check.argument("4: the same day", () -> x.reading(0, 10, 100));
        Check.argument("4: a day before", () -> x.reading(0, 9, 100));
        Check.argument("4: less than the latest", () -> x.reading(0, 11, 99));
        Check.due("4: as much as the latest", 2, () -> x.reading(0, 11, 100));
        x.changed(0, 12, 500, 7);
        Check.argument("4: less than the new one's start", () -> x.reading(0, 13, 6));
        Check.due("4: the new one's start, though less than the end", 4, () -> x.reading(0, 13, 7));
        for (int i = 5; i <= 40; i++) {
            int n = i;
            Check.due("4: how many", n, () -> x.reading(0, 10 + n, 7));
        }
        Check.state("4: it has 40", () -> x.reading(0, 3649, VALUE));
        Check.argument("4: argument ahead of state", () -> x.reading(0, 50, 7));
        Check.argument("4: a fall ahead of state", () -> x.reading(0, 51, 6));
        x.meter(0, 0, 1, 1, 3649);
        Check.due("4: the last day and the most", 1, () -> x.reading(1, 3649, VALUE));
    }

    private static void changed() {
        BillShares x = house(1);
        x.meter(0, 0, 1, 1, 3649);
        Check.argument("5: no such meter", () -> x.changed(1, 0, 0, 0));
        Check.argument("5: day 3650", () -> x.changed(0, 3650, 0, 0));
        Check.argument("5: day -1", () -> x.changed(0, -1, 0, 0));
        Check.argument("5: end -1", () -> x.changed(0, 0, -1, 0));
        Check.argument("5: end over 10^7", () -> x.changed(0, 0, VALUE + 1, 0));
        Check.argument("5: start -1", () -> x.changed(0, 0, 0, -1));
        Check.argument("5: start over 10^7", () -> x.changed(0, 0, 0, VALUE + 1));
        Check.due("5: the first of all", 1, () -> x.changed(0, 0, 50, 20));
        Check.argument("5: the same day", () -> x.changed(0, 0, 50, 20));
        Check.argument("5: end less than the start before", () -> x.changed(0, 1, 19, 0));
        Check.due("5: end as the start before", 2, () -> x.changed(0, 1, 20, VALUE));
        Check.due("5: from the most to the same", 3, () -> x.changed(0, 2, VALUE, VALUE));
        Check.argument("5: less than the most", () -> x.reading(0, 3, VALUE - 1));
        Check.due("5: back to 0", 4, () -> x.changed(0, 3, VALUE, 0));
        Check.due("5: goes on from 0", 5, () -> x.reading(0, 365, 30));
        Check.due("5: what both told", 30, () -> x.use(0, 0));
        for (int i = 6; i <= 40; i++) {
            x.reading(0, 360 + i, 30);
        }
        Check.state("5: it has 40", () -> x.changed(0, 500, 30, 0));
        Check.argument("5: argument ahead of state", () -> x.changed(0, 500, 30, -1));
        Check.argument("5: a fall ahead of state", () -> x.changed(0, 500, 29, 0));
    }

    private static void correct() {
        BillShares x = house(1);
        x.meter(0, 0, 1, 1, 3649);
        Check.argument("6: no readings", () -> x.correct(0, 0, 0));
        x.reading(0, 0, 10);
        x.reading(0, 100, 20);
        x.changed(0, 200, 30, 5);
        x.reading(0, 365, 15);
        Check.argument("6: no such meter", () -> x.correct(1, 0, 10));
        Check.argument("6: meter -1", () -> x.correct(-1, 0, 10));
        Check.argument("6: day -1", () -> x.correct(0, -1, 10));
        Check.argument("6: day 3650", () -> x.correct(0, 3650, 10));
        Check.argument("6: no reading at this day", () -> x.correct(0, 99, 20));
        Check.argument("6: value -1", () -> x.correct(0, 0, -1));
        Check.argument("6: value over 10^7", () -> x.correct(0, 365, VALUE + 1));
        Check.argument("6: under the one before", () -> x.correct(0, 100, 9));
        Check.argument("6: over the one behind", () -> x.correct(0, 100, 31));
        Check.argument("6: the first one over the one behind", () -> x.correct(0, 0, 21));
        Check.argument("6: under the new one's start", () -> x.correct(0, 365, 4));
        Check.argument("6: the old one's end under the one before", () -> x.correct(0, 200, 19));
        Check.due("6: nothing was changed by these", 30, () -> x.use(0, 0));
        Check.due("6: as the one before", 20, () -> x.correct(0, 100, 10));
        Check.due("6: as the one behind", 10, () -> x.correct(0, 100, 30));
        Check.due("6: the first one", 10, () -> x.correct(0, 0, 0));
        Check.due("6: as the new one's start", 15, () -> x.correct(0, 365, 5));
        Check.due("6: an end, with no regard to the one behind", 30, () -> x.correct(0, 200, VALUE));
        Check.due("6: the start stays", VALUE, () -> x.use(0, 0));
        Check.due("6: the last one to the most", 5, () -> x.correct(0, 365, VALUE));
        Check.due("6: what it told then", VALUE + VALUE - 5, () -> x.use(0, 0));
        Check.argument("6: reading() goes by the corrected value", () -> x.reading(0, 366, VALUE - 1));
    }

    private static void tested() {
        BillShares x = house(1);
        toldMeter(x, 0, 0, 9);
        Check.argument("7: no such meter", () -> x.tested(1, 0));
        Check.argument("7: meter -1", () -> x.tested(-1, 0));
        Check.argument("7: day -1", () -> x.tested(0, -1));
        Check.argument("7: day 3650", () -> x.tested(0, 3650));
        Check.due("7: up to which it was", 3649, () -> x.tested(0, 365));
        Check.due("7: up to the year's other end", 9, () -> x.use(0, 0));
        Check.due("7: a day less", 365, () -> x.tested(0, 364));
        Check.due("7: tells no more", BillShares.NONE, () -> x.use(0, 0));
        Check.due("7: day 0", 364, () -> x.tested(0, 0));
        Check.due("7: the last day", 0, () -> x.tested(0, 3649));
        Check.due("7: tells again", 9, () -> x.use(0, 0));
    }

    private static void cost() {
        BillShares x = house(1);
        Check.argument("8: kind -1", () -> x.cost(-1, 0, 0));
        Check.argument("8: kind 4", () -> x.cost(4, 0, 0));
        Check.argument("8: year -1", () -> x.cost(0, -1, 0));
        Check.argument("8: year 10", () -> x.cost(0, 10, 0));
        Check.argument("8: cents -1", () -> x.cost(0, 0, -1));
        Check.argument("8: cents over 10^9", () -> x.cost(0, 0, CENTS + 1));
        for (int kind = 0; kind < 4; kind++) {
            for (int year = 0; year < 10; year++) {
                int k = kind;
                int y = year;
                Check.due("8: at first", 0, () -> x.cost(k, y, 100 * k + y));
            }
        }
        Check.due("8: of one kind and year", 309, () -> x.cost(3, 9, CENTS));
        Check.due("8: the most", CENTS, () -> x.cost(3, 9, 0));
        Check.due("8: none", 0, () -> x.cost(3, 9, 5));
        x.run(9);
        Check.due("8: what is shared", 9, () -> x.line(0, 0, 9, 0));
        Check.due("8: what is shared of the last kind", 5, () -> x.line(0, 3, 9, 0));
    }

    private static void base() {
        BillShares x = house(1);
        Check.argument("9: kind -1", () -> x.base(-1, 0));
        Check.argument("9: kind 4", () -> x.base(4, 0));
        Check.argument("9: percent -1", () -> x.base(0, -1));
        Check.argument("9: percent 101", () -> x.base(0, 101));
        Check.due("9: at first", 30, () -> x.base(0, 0));
        Check.due("9: none", 0, () -> x.base(0, 100));
        Check.due("9: all", 100, () -> x.base(0, 33));
        Check.due("9: other kinds are as they were", 30, () -> x.base(3, 100));
        for (int kind = 0; kind < 4; kind++) {
            x.cost(kind, 0, 199);
        }
        x.run(0);
        Check.due("9: 33 in 100 of 199, rounded down", 65, () -> x.line(0, 0, 0, 1));
        Check.due("9: 30 in 100 of 199, rounded down", 59, () -> x.line(0, 1, 0, 1));
        Check.due("9: all of it", 199, () -> x.line(0, 3, 0, 1));
        Check.due("9: both parts", 199, () -> x.line(0, 1, 0, 0));
        x.base(0, 0);
        Check.due("9: an edition stays as it was made", 65, () -> x.line(0, 0, 0, 1));
        x.run(0);
        Check.due("9: 0 in 100", 0, () -> x.line(0, 0, 0, 1));
    }

    private static void moves() {
        BillShares x = house(1, 1);
        Check.argument("10: no such flat", () -> x.moves(2, 1));
        Check.argument("10: flat -1", () -> x.moves(-1, 1));
        Check.argument("10: day -1", () -> x.moves(0, -1));
        Check.argument("10: day 3650", () -> x.moves(0, 3650));
        Check.argument("10: the first one lives there from day 0", () -> x.moves(0, 0));
        Check.due("10: day 1", 1, () -> x.moves(0, 1));
        Check.argument("10: the same day", () -> x.moves(0, 1));
        for (int i = 2; i < 11; i++) {
            int n = i;
            Check.due("10: its number", n, () -> x.moves(0, 10 * n));
        }
        Check.argument("10: a day before", () -> x.moves(0, 99));
        Check.due("10: the twelfth, in the last but one day", 11, () -> x.moves(0, 3648));
        Check.state("10: there were 12", () -> x.moves(0, 3649));
        Check.argument("10: argument ahead of state", () -> x.moves(0, 3648));
        Check.due("10: the other flat, in the last day", 1, () -> x.moves(1, 3649));
    }

    private static void prepaid() {
        BillShares x = house(1, 1);
        Check.argument("11: no such flat", () -> x.prepaid(2, 0, 1));
        Check.argument("11: flat -1", () -> x.prepaid(-1, 0, 1));
        Check.argument("11: year -1", () -> x.prepaid(0, -1, 1));
        Check.argument("11: year 10", () -> x.prepaid(0, 10, 1));
        Check.argument("11: cents 0", () -> x.prepaid(0, 0, 0));
        Check.argument("11: cents over 10^9", () -> x.prepaid(0, 0, CENTS + 1));
        Check.due("11: one cent", 1, () -> x.prepaid(0, 0, 1));
        Check.due("11: another year", 5, () -> x.prepaid(0, 9, 5));
        Check.due("11: another flat", 7, () -> x.prepaid(1, 0, 7));
        for (long times = 1; times <= 5; times++) {
            long n = times;
            Check.due("11: in all", n * CENTS + 1, () -> x.prepaid(0, 0, CENTS));
        }
    }

    private static void run() {
        BillShares x = new BillShares();
        Check.argument("12: year -1", () -> x.run(-1));
        Check.argument("12: year 10, ahead of no flats", () -> x.run(10));
        Check.state("12: no flats", () -> x.run(0));
        Check.due("12: which is no edition", 0, () -> x.edition(0));
        x.flat(1, 0);
        x.cost(0, 9, 10);
        for (int i = 1; i <= 50; i++) {
            int n = i;
            Check.due("12: its edition", n, () -> x.run(9));
        }
        x.cost(0, 9, 20);
        Check.state("12: there were 50", () -> x.run(9));
        Check.due("12: a run that was refused made no lines", 10, () -> x.share(0, 9));
        Check.due("12: nor an edition", 50, () -> x.edition(9));
        Check.due("12: another year", 1, () -> x.run(0));
    }

    private static void use() {
        BillShares x = house(1);
        x.meter(0, 0, 3, 2, 730);
        Check.argument("13: no such meter", () -> x.use(1, 0));
        Check.argument("13: meter -1", () -> x.use(-1, 0));
        Check.argument("13: year -1", () -> x.use(0, -1));
        Check.argument("13: year 10", () -> x.use(0, 10));
        Check.due("13: no readings", BillShares.NONE, () -> x.use(0, 0));
        x.reading(0, 1, 100);
        x.reading(0, 364, 110);
        x.reading(0, 366, 113);
        x.reading(0, 729, 120);
        Check.due("13: none at the first end", BillShares.NONE, () -> x.use(0, 0));
        Check.due("13: none at the other end", BillShares.NONE, () -> x.use(0, 1));
        x.reading(0, 730, 130);
        // From 365 on: 3 less floor(3 * 1 / 2) = 2, then 7, then 10: 19, times 3 / 2 = 28.5.
        Check.due("13: rounded down pair by pair, then the factor", 28, () -> x.use(0, 1));
        x.meter(0, 0, 1, 1, 3649);
        x.reading(1, 0, 0);
        x.reading(1, 3649, 3650);
        // Up to day 365: floor(3650 * 365 / 3649) = 365.1; up to 730: 730.2; up to 3285: 3285.9.
        Check.due("13: of a pair over all years", 365, () -> x.use(1, 0));
        Check.due("13: the year behind", 365, () -> x.use(1, 1));
        Check.due("13: year 8", 365, () -> x.use(1, 8));
        Check.due("13: year 9 ends behind the last day", BillShares.NONE, () -> x.use(1, 9));
        BillShares y = house(1);
        y.meter(0, 0, 1000, 1, 3649);
        for (int i = 0; i < 40; i++) {
            y.changed(0, i == 39 ? 365 : i, VALUE, 0);
        }
        Check.due("13: the most", 390_000_000_000L, () -> y.use(0, 0));
    }

    private static void barred() {
        BillShares x = house(1, 1);
        Check.argument("14: no such flat", () -> x.barred(2, 0, 0));
        Check.argument("14: flat -1", () -> x.barred(-1, 0, 0));
        Check.argument("14: kind -1", () -> x.barred(0, -1, 0));
        Check.argument("14: kind 4", () -> x.barred(0, 4, 0));
        Check.argument("14: year -1", () -> x.barred(0, 0, -1));
        Check.argument("14: year 10", () -> x.barred(0, 0, 10));
        Check.due("14: no meter", 1, () -> x.barred(0, 0, 0));
        int first = toldMeter(x, 0, 0, 5);
        Check.due("14: not barred", 0, () -> x.barred(0, 0, 0));
        Check.due("14: another kind", 1, () -> x.barred(0, 1, 0));
        Check.due("14: another flat", 1, () -> x.barred(1, 0, 0));
        Check.due("14: another year", 2, () -> x.barred(0, 0, 1));
        x.tested(first, 364);
        Check.due("14: tested no more", 3, () -> x.barred(0, 0, 0));
        Check.due("14: 2 ahead of 3 in one meter", 2, () -> x.barred(0, 0, 1));
        x.meter(0, 0, 1, 1, 3649);
        Check.due("14: the first meter counts", 3, () -> x.barred(0, 0, 0));
        x.tested(first, 365);
        Check.due("14: then the second one", 2, () -> x.barred(0, 0, 0));
        x.reading(1, 0, 0);
        x.reading(1, 364, 0);
        Check.due("14: a day short", 2, () -> x.barred(0, 0, 0));
        x.reading(1, 365, 0);
        Check.due("14: both tell", 0, () -> x.barred(0, 0, 0));
        x.tested(1, 0);
        Check.due("14: one of them tested no more", 3, () -> x.barred(0, 0, 0));
    }

    private static void line() {
        BillShares x = new BillShares();
        x.flat(1, 7);
        x.flat(1, 3);
        x.flat(1, 3);
        x.flat(1, 99);
        Check.state("15: no run", () -> x.line(0, 0, 0, 0));
        Check.argument("15: no such flat, ahead of no run", () -> x.line(4, 0, 0, 0));
        Check.argument("15: what 2, ahead of no run", () -> x.line(0, 0, 0, 2));
        x.cost(0, 0, 24);
        x.base(0, 30);
        x.run(0);
        // Base 7: one each, 3 left; used 17: four each, 1 left; by rank flats 1, 2, 0, 3.
        long[] bases = {2, 2, 2, 1};
        long[] all = {6, 7, 6, 5};
        for (int flat = 0; flat < 4; flat++) {
            int f = flat;
            Check.due("15: base of flat " + f, bases[f], () -> x.line(f, 0, 0, 1));
            Check.due("15: all of flat " + f, all[f], () -> x.line(f, 0, 0, 0));
            Check.due("15: a kind that costs nothing", 0, () -> x.line(f, 1, 0, 0));
        }
        Check.state("15: no run of another year", () -> x.line(0, 0, 1, 0));
        Check.argument("15: flat -1", () -> x.line(-1, 0, 0, 0));
        Check.argument("15: flat 4", () -> x.line(4, 0, 0, 0));
        Check.argument("15: kind -1", () -> x.line(0, -1, 0, 0));
        Check.argument("15: kind 4", () -> x.line(0, 4, 0, 0));
        Check.argument("15: year -1", () -> x.line(0, 0, -1, 0));
        Check.argument("15: year 10", () -> x.line(0, 0, 10, 0));
        Check.argument("15: what -1", () -> x.line(0, 0, 0, -1));
        Check.argument("15: what 2", () -> x.line(0, 0, 0, 2));
        x.flat(6, 0);
        Check.argument("15: not there in that run", () -> x.line(4, 0, 0, 0));
        x.cost(0, 0, 1000);
        Check.due("15: an edition stays as it was made", 6, () -> x.line(0, 0, 0, 0));
        x.run(0);
        Check.due("15: the latest edition", 600, () -> x.line(4, 0, 0, 0));
        Check.due("15: its base", 180, () -> x.line(4, 0, 0, 1));
    }

    private static void linesByUse() {
        BillShares x = house(10, 20, 30, 5);
        x.base(0, 0);
        x.cost(0, 0, 1000);
        toldMeter(x, 0, 0, 30);
        toldMeter(x, 0, 0, 20);
        toldMeter(x, 1, 0, 51);
        toldMeter(x, 2, 1, 999);
        x.run(0);
        // Told are 101 on areas of 30: flat 2 is taken to use 101, flat 3 floor(505 / 30) = 16; 218 in all.
        Check.due("15: told by two meters, and a cent by rank", 230, () -> x.line(0, 0, 0, 0));
        Check.due("15: told, and a cent by rank", 234, () -> x.line(1, 0, 0, 0));
        Check.due("15: barred", 463, () -> x.line(2, 0, 0, 0));
        Check.due("15: barred, rounded down", 73, () -> x.line(3, 0, 0, 0));
        x.correct(0, 365, 0);
        x.correct(1, 365, 0);
        x.correct(2, 365, 0);
        x.run(0);
        // 65 in all: 153.8, 307.6, 461.5, 76.9: three cents left.
        Check.due("15: no use at all goes by areas", 154, () -> x.line(0, 0, 0, 0));
        Check.due("15: by areas, 1", 308, () -> x.line(1, 0, 0, 0));
        Check.due("15: by areas, 2", 462, () -> x.line(2, 0, 0, 0));
        Check.due("15: by areas, 3", 76, () -> x.line(3, 0, 0, 0));
        x.correct(2, 365, 1);
        x.run(0);
        // Flat 1 tells 1, flat 0 none: barred flat 2 takes floor(30 / 30) = 1, flat 3 floor(5 / 30) = 0.
        Check.due("15: no use", 0, () -> x.line(0, 0, 0, 0));
        Check.due("15: a use of one", 500, () -> x.line(1, 0, 0, 0));
        Check.due("15: one taken over", 500, () -> x.line(2, 0, 0, 0));
        Check.due("15: none taken over", 0, () -> x.line(3, 0, 0, 0));
    }

    /** Products that no long holds: 20 flats, the first one tiny and alone told, with the most that calls allow. */
    private static void linesOfHugeUses() {
        BillShares x = new BillShares();
        x.flat(1, 99);
        for (int i = 1; i < 20; i++) {
            x.flat(1000, i);
        }
        for (int meter = 0; meter < 9; meter++) {
            x.meter(0, 0, 1000, 1, 3649);
            for (int day = 0; day < 39; day++) {
                x.changed(meter, day, VALUE, 0);
            }
            x.reading(meter, 365, VALUE);
        }
        x.cost(0, 0, CENTS);
        x.base(0, 0);
        x.run(0);
        // By 1 : 1000 : .. : 1000 (19001 in all): 52628.8, and 52628809.01 for each of the others: a cent is left.
        Check.due("15: huge uses, the tiny flat", 52628, () -> x.line(0, 0, 0, 0));
        Check.due("15: huge uses, the least rank", 52628810, () -> x.line(1, 0, 0, 0));
        Check.due("15: huge uses, the others", 52628809, () -> x.line(2, 0, 0, 0));
        long sum = 0;
        for (int flat = 0; flat < 20; flat++) {
            sum += x.line(flat, 0, 0, 0);
        }
        long all = sum;
        Check.due("15: huge uses, all of it", CENTS, () -> all);
    }

    private static void share() {
        BillShares x = house(1, 3);
        Check.state("16: no run", () -> x.share(0, 0));
        Check.argument("16: no such flat, ahead of no run", () -> x.share(2, 0));
        for (int kind = 0; kind < 4; kind++) {
            x.cost(kind, 0, CENTS);
        }
        x.run(0);
        Check.due("16: the sum of lines", CENTS, () -> x.share(0, 0));
        Check.due("16: the sum of lines, more than an int", 3L * CENTS, () -> x.share(1, 0));
        Check.argument("16: flat -1", () -> x.share(-1, 0));
        Check.argument("16: flat 2", () -> x.share(2, 0));
        Check.argument("16: year -1", () -> x.share(0, -1));
        Check.argument("16: year 10", () -> x.share(0, 10));
        Check.state("16: another year", () -> x.share(0, 1));
        x.flat(1, 0);
        Check.argument("16: not there in that run", () -> x.share(2, 0));
        Check.state("16: there, but no run of the year", () -> x.share(2, 1));
        x.run(0);
        Check.due("16: there in the next one", 4L * CENTS / 5, () -> x.share(2, 0));
    }

    private static void part() {
        BillShares x = house(1);
        x.cost(0, 1, 1000);
        Check.state("17: no run", () -> x.part(0, 0, 1));
        Check.argument("17: nobody of this number, ahead of no run", () -> x.part(0, 1, 1));
        x.run(1);
        Check.due("17: one alone gets all", 1000, () -> x.part(0, 0, 1));
        x.moves(0, 365);
        Check.due("17: moved out as the year begins", 0, () -> x.part(0, 0, 1));
        Check.due("17: moved in as the year begins", 1000, () -> x.part(0, 1, 1));
        x.moves(0, 366);
        // Base 300, used 700, by days: 1 / 365 of each rounded down is 0 and 1.
        Check.due("17: one day", 1, () -> x.part(0, 1, 1));
        Check.due("17: the others, with what is left", 999, () -> x.part(0, 2, 1));
        x.moves(0, 700);
        // 334 days: 274.5 and 640.5.
        Check.due("17: between", 914, () -> x.part(0, 2, 1));
        Check.due("17: the last one, with what is left", 85, () -> x.part(0, 3, 1));
        x.moves(0, 730);
        Check.due("17: moved in as the year was over", 0, () -> x.part(0, 4, 1));
        Check.due("17: so the last one in the year is as before", 85, () -> x.part(0, 3, 1));
        Check.argument("17: no such flat", () -> x.part(1, 0, 1));
        Check.argument("17: flat -1", () -> x.part(-1, 0, 1));
        Check.argument("17: who -1", () -> x.part(0, -1, 1));
        Check.argument("17: nobody of this number", () -> x.part(0, 5, 1));
        Check.argument("17: year -1", () -> x.part(0, 0, -1));
        Check.argument("17: year 10", () -> x.part(0, 0, 10));
        Check.state("17: another year", () -> x.part(0, 0, 0));
        x.flat(1, 0);
        Check.argument("17: not there in that run", () -> x.part(1, 0, 1));
        BillShares y = house(1);
        y.cost(3, 9, 365);
        y.base(3, 100);
        y.run(9);
        y.moves(0, 3649);
        Check.due("17: all days but the last one", 364, () -> y.part(0, 0, 9));
        Check.due("17: the last day of all", 1, () -> y.part(0, 1, 9));
    }

    private static void partByUse() {
        BillShares x = house(1);
        x.base(0, 0);
        x.cost(0, 0, 1000);
        x.meter(0, 0, 1, 2, 3649);
        x.meter(0, 0, 1, 1, 3649);
        x.reading(0, 0, 0);
        x.reading(0, 100, 7);
        x.reading(0, 365, 30);
        x.reading(1, 0, 0);
        x.reading(1, 365, 365);
        x.run(0);
        x.moves(0, 100);
        x.moves(0, 365);
        // Use up to day 100: floor(7 / 2) + 100 = 103, of 15 + 365 = 380.
        Check.due("17: by use", 271, () -> x.part(0, 0, 0));
        Check.due("17: by use, the rest", 729, () -> x.part(0, 1, 0));
        Check.due("17: not in this year", 0, () -> x.part(0, 2, 0));
        x.correct(1, 365, 0);
        // Now 3 of 15.
        Check.due("17: by readings as they are now", 200, () -> x.part(0, 0, 0));
        x.tested(1, 364);
        // 100 days of 365.
        Check.due("17: barred by now, so by days", 273, () -> x.part(0, 0, 0));
        x.tested(1, 365);
        x.correct(0, 100, 0);
        x.correct(0, 365, 0);
        Check.due("17: no use, so by days", 273, () -> x.part(0, 0, 0));
        Check.due("17: no use, the rest", 727, () -> x.part(0, 1, 0));
        x.correct(0, 365, 1);
        Check.due("17: a use that its factor rounds down to none, so by days", 273, () -> x.part(0, 0, 0));
        Check.due("17: the edition is as it was made", 1000, () -> x.share(0, 0));
    }

    private static void partOfHugeUses() {
        BillShares x = house(1);
        x.base(0, 0);
        x.cost(0, 0, CENTS);
        for (int meter = 0; meter < 30; meter++) {
            x.meter(0, 0, 1000, 1, 3649);
            x.changed(meter, 0, 0, 0);
            x.changed(meter, 1, VALUE, 0);
            x.changed(meter, 2, VALUE, 0);
            x.reading(meter, 365, VALUE);
        }
        x.run(0);
        x.moves(0, 1);
        x.moves(0, 2);
        Check.due("17: huge uses", 333_333_333, () -> x.part(0, 0, 0));
        Check.due("17: huge uses, the same again", 333_333_333, () -> x.part(0, 1, 0));
        Check.due("17: huge uses, the rest", 333_333_334, () -> x.part(0, 2, 0));
    }

    private static void balance() {
        BillShares x = house(1, 1);
        x.prepaid(0, 0, 70);
        Check.state("18: no run", () -> x.balance(0, 0));
        Check.argument("18: no such flat, ahead of no run", () -> x.balance(2, 0));
        x.cost(0, 0, 100);
        x.run(0);
        Check.due("18: paid before the run", -20, () -> x.balance(0, 0));
        Check.due("18: nothing paid", 50, () -> x.balance(1, 0));
        x.prepaid(1, 0, 1);
        x.prepaid(1, 1, 1000);
        Check.due("18: paid behind the run, and for another year", 49, () -> x.balance(1, 0));
        x.prepaid(0, 0, CENTS);
        x.prepaid(0, 0, CENTS);
        x.prepaid(0, 0, CENTS);
        Check.due("18: more than an int", -20 - 3L * CENTS, () -> x.balance(0, 0));
        Check.argument("18: flat -1", () -> x.balance(-1, 0));
        Check.argument("18: flat 2", () -> x.balance(2, 0));
        Check.argument("18: year -1", () -> x.balance(0, -1));
        Check.argument("18: year 10", () -> x.balance(0, 10));
        Check.state("18: another year", () -> x.balance(0, 1));
        x.flat(1, 0);
        Check.argument("18: not there in that run", () -> x.balance(2, 0));
    }

    private static void difference() {
        BillShares x = house(1, 1);
        x.cost(0, 0, 100);
        Check.state("19: no run", () -> x.difference(0, 0));
        Check.argument("19: no such flat, ahead of no run", () -> x.difference(2, 0));
        x.run(0);
        Check.due("19: the first edition", 0, () -> x.difference(0, 0));
        x.cost(0, 0, 40);
        Check.due("19: without a run nothing is different", 0, () -> x.difference(0, 0));
        x.run(0);
        Check.due("19: less", -30, () -> x.difference(0, 0));
        x.cost(3, 0, 60);
        x.flat(2, 0);
        Check.argument("19: not there in that run", () -> x.difference(2, 0));
        x.run(0);
        // Of kind 0 10; of kind 3 4.5 and 10.5, with the cents that are left.
        Check.due("19: to the edition before, not the first", 6, () -> x.difference(0, 0));
        Check.due("19: not there in the one before", 50, () -> x.difference(2, 0));
        x.run(0);
        Check.due("19: the same again", 0, () -> x.difference(0, 0));
        Check.due("19: there in the one before", 0, () -> x.difference(2, 0));
        x.cost(1, 1, 8);
        x.run(1);
        Check.due("19: the first edition of another year", 0, () -> x.difference(2, 1));
        Check.argument("19: flat -1", () -> x.difference(-1, 0));
        Check.argument("19: flat 3", () -> x.difference(3, 0));
        Check.argument("19: year -1", () -> x.difference(0, -1));
        Check.argument("19: year 10", () -> x.difference(0, 10));
        Check.state("19: another year", () -> x.difference(0, 2));
    }

    private static void edition() {
        BillShares x = house(1);
        Check.argument("20: year -1", () -> x.edition(-1));
        Check.argument("20: year 10", () -> x.edition(10));
        Check.due("20: without one", 0, () -> x.edition(9));
        x.run(9);
        x.run(9);
        x.run(0);
        Check.due("20: two", 2, () -> x.edition(9));
        Check.due("20: one", 1, () -> x.edition(0));
        Check.due("20: none", 0, () -> x.edition(5));
    }
}
