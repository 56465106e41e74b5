/**
 * Every number of every call: the least and the most that are taken, with their answers; one less, one more and the
 * ends of int, which are refused as illegal arguments and change nothing.
 */
public final class BoundsTest {
    private static final int VALUE = 10_000_000;
    private static final int CENTS = 1_000_000_000;
    private static final House SMALL = House.SMALL;

    interface With {
        long call(BillShares x, int number);
    }

    public static void main(String[] args) {
        flat();
        meter();
        reading();
        changed();
        correct();
        tested();
        costAndBase();
        moves();
        prepaid();
        runAndEdition();
        use();
        barred();
        line();
        shareBalanceDifference();
        part();
        Check.end();
    }

    private static void bounds(String what, int least, long wantLeast, int most, long wantMost, With call) {
        Twins.taken(what + " " + least, wantLeast, SMALL, x -> call.call(x, least));
        Twins.taken(what + " " + most, wantMost, SMALL, x -> call.call(x, most));
        for (int number : new int[] {least - 1, most + 1, Integer.MIN_VALUE, Integer.MAX_VALUE}) {
            Twins.argument(what + " " + number, SMALL, x -> call.call(x, number));
        }
    }

    private static void flat() {
        bounds("2: area", 1, 4, 1000, 4, (x, n) -> x.flat(n, 50));
        bounds("2: rank", 0, 4, 99, 4, (x, n) -> x.flat(50, n));
    }

    private static void meter() {
        bounds("3: flat", 0, 7, 3, 7, (x, n) -> x.meter(n, 0, 1, 1, 3649));
        bounds("3: kind", 0, 7, 3, 7, (x, n) -> x.meter(0, n, 1, 1, 3649));
        bounds("3: above", 1, 7, 1000, 7, (x, n) -> x.meter(0, 0, n, 1, 3649));
        bounds("3: below", 1, 7, 1000, 7, (x, n) -> x.meter(0, 0, 1, n, 3649));
        bounds("3: tested", 0, 7, 3649, 7, (x, n) -> x.meter(0, 0, 1, 1, n));
    }

    private static void reading() {
        bounds("4: meter", 0, 4, 6, 3, (x, n) -> x.reading(n, 3649, VALUE));
        // Meter 3 is not read yet.
        bounds("4: day", 0, 1, 3649, 1, (x, n) -> x.reading(3, n, 5));
        bounds("4: value", 0, 1, VALUE, 1, (x, n) -> x.reading(3, 5, n));
        // Meter 0's latest reading: day 730, value 700; meter 5 was changed at day 10, from 70 to 40.
        bounds("4: day behind the latest", 731, 4, 3649, 4, (x, n) -> x.reading(0, n, 700));
        bounds("4: value from the latest on", 700, 4, VALUE, 4, (x, n) -> x.reading(0, 731, n));
        bounds("4: day behind a change", 11, 2, 3649, 2, (x, n) -> x.reading(5, n, 40));
        bounds("4: value from a start on", 40, 2, VALUE, 2, (x, n) -> x.reading(5, 11, n));
        for (int day : new int[] {0, 1, 364, 365, 366, 729}) {
            Twins.argument("4: day " + day + ", far before", SMALL, x -> x.reading(0, day, 700));
        }
    }

    private static void changed() {
        bounds("5: meter", 0, 4, 6, 3, (x, n) -> x.changed(n, 3649, VALUE, 0));
        bounds("5: day", 0, 1, 3649, 1, (x, n) -> x.changed(3, n, 5, 5));
        bounds("5: end", 0, 1, VALUE, 1, (x, n) -> x.changed(3, 5, n, 5));
        bounds("5: start", 0, 1, VALUE, 1, (x, n) -> x.changed(3, 5, 5, n));
        bounds("5: day behind the latest", 731, 4, 3649, 4, (x, n) -> x.changed(0, n, 700, 0));
        bounds("5: end from the latest on", 700, 4, VALUE, 4, (x, n) -> x.changed(0, 731, n, 0));
        bounds("5: start, behind others", 0, 4, VALUE, 4, (x, n) -> x.changed(0, 731, 700, n));
        bounds("5: day behind a change", 11, 2, 3649, 2, (x, n) -> x.changed(5, n, 40, 0));
        bounds("5: end from a start on", 40, 2, VALUE, 2, (x, n) -> x.changed(5, 11, n, 0));
        for (int day : new int[] {0, 1, 364, 365, 366, 729}) {
            Twins.argument("5: day " + day + ", far before", SMALL, x -> x.changed(0, day, 700, 0));
        }
    }

    private static void correct() {
        bounds("6: meter", 0, 100, 6, 0, (x, n) -> x.correct(n, 0, 0));
        bounds("6: day", 0, 7, 3649, VALUE, (x, n) -> x.correct(4, n, 10));
        // Meter 2 has one reading alone, so nothing but the bounds of values holds it; as has meter 5, a change.
        bounds("6: value", 0, 5, VALUE, 5, (x, n) -> x.correct(2, 0, n));
        bounds("6: value of a change alone", 0, 70, VALUE, 70, (x, n) -> x.correct(5, 10, n));
        bounds("6: value between others", 100, 400, 700, 400, (x, n) -> x.correct(0, 365, n));
        bounds("6: value of the first", 0, 100, 400, 100, (x, n) -> x.correct(0, 0, n));
        bounds("6: value of the last", 400, 700, VALUE, 700, (x, n) -> x.correct(0, 730, n));
        // Meter 1: 50 at day 100, at day 200 changed from 60 to 1000, 1100 at day 400.
        bounds("6: value ahead of a change", 0, 50, 60, 50, (x, n) -> x.correct(1, 100, n));
        bounds("6: value of a change", 50, 60, VALUE, 60, (x, n) -> x.correct(1, 200, n));
        bounds("6: value behind a change", 1000, 1100, VALUE, 1100, (x, n) -> x.correct(1, 400, n));
        for (int day : new int[] {1, 364, 366, 729, 731, 3649}) {
            Twins.argument("6: no reading at day " + day, SMALL, x -> x.correct(0, day, 400));
        }
        Twins.argument("6: no reading at all", SMALL, x -> x.correct(3, 0, 0));
    }

    private static void tested() {
        bounds("7: meter", 0, 3649, 6, 3649, (x, n) -> x.tested(n, 5));
        bounds("7: day", 0, 364, 3649, 364, (x, n) -> x.tested(2, n));
    }

    private static void costAndBase() {
        bounds("8: kind", 0, 10001, 3, 100, (x, n) -> x.cost(n, 0, 1));
        bounds("8: year", 0, 10001, 9, 12345, (x, n) -> x.cost(0, n, 1));
        bounds("8: year of another kind", 0, 0, 9, 0, (x, n) -> x.cost(2, n, 1));
        bounds("8: cents", 0, 10001, CENTS, 10001, (x, n) -> x.cost(0, 0, n));
        bounds("9: kind", 0, 30, 3, 30, (x, n) -> x.base(n, 1));
        bounds("9: percent", 0, 30, 100, 30, (x, n) -> x.base(0, n));
        Twins.taken("8: the most is kept", CENTS, SMALL, x -> {
            x.cost(0, 0, CENTS);
            return x.cost(0, 0, 0);
        });
        Twins.taken("9: the most is kept", 100, SMALL, x -> {
            x.base(0, 100);
            return x.base(0, 0);
        });
    }

    private static void moves() {
        bounds("10: flat", 0, 3, 3, 1, (x, n) -> x.moves(n, 3649));
        bounds("10: day", 1, 1, 3649, 1, (x, n) -> x.moves(2, n));
        bounds("10: day behind the one before", 501, 3, 3649, 3, (x, n) -> x.moves(0, n));
        for (int day : new int[] {0, 1, 99, 100, 101, 499}) {
            Twins.argument("10: day " + day + ", far before", SMALL, x -> x.moves(0, day));
        }
    }

    private static void prepaid() {
        bounds("11: flat", 0, 5001, 3, 1, (x, n) -> x.prepaid(n, 0, 1));
        bounds("11: year", 0, 5001, 9, 1, (x, n) -> x.prepaid(0, n, 1));
        bounds("11: cents", 1, 5001, CENTS, CENTS + 5000L, (x, n) -> x.prepaid(0, 0, n));
    }

    private static void runAndEdition() {
        bounds("12: year", 0, 3, 9, 2, (x, n) -> x.run(n));
        bounds("20: year", 0, 2, 9, 1, (x, n) -> x.edition(n));
    }

    private static void use() {
        // Meter 6: a thousandth of floor(9999999 * 365 / 3648) = 1000548.
        bounds("13: meter", 0, 300, 6, 1000, (x, n) -> x.use(n, 0));
        bounds("13: year", 0, 300, 9, BillShares.NONE, (x, n) -> x.use(0, n));
    }

    private static void barred() {
        bounds("14: flat", 0, 0, 3, 1, (x, n) -> x.barred(n, 0, 0));
        bounds("14: kind", 0, 1, 3, 2, (x, n) -> x.barred(2, n, 0));
        bounds("14: year", 0, 0, 9, 2, (x, n) -> x.barred(2, 1, n));
    }

    // In year 9 all are barred, so both parts of 12345 go by areas 50, 30, 20: of 3703 flat 0 gets 1851.5, flat 2
    // 740.6, and of the two cents that are left flats 1 and 0 one each; of 8642 they get 4321 and 1728.4, and flat 1
    // the cent that is left.
    private static void line() {
        bounds("15: flat", 0, 6173, 2, 2468, (x, n) -> x.line(n, 0, 9, 0));
        bounds("15: kind", 0, 6173, 3, 0, (x, n) -> x.line(0, n, 9, 0));
        bounds("15: year", 0, 1500, 9, 1852, (x, n) -> x.line(0, 0, n, 1));
        bounds("15: what", 0, 6173, 1, 1852, (x, n) -> x.line(0, 0, 9, n));
    }

    // In year 0 flat 2 gets 600 and 1398 of kind 0, 155 of kind 1, 6 and 14 of kind 3, none of kind 2.
    private static void shareBalanceDifference() {
        bounds("16: flat", 0, 6173, 2, 2468, (x, n) -> x.share(n, 9));
        bounds("16: year", 0, 2173, 9, 2468, (x, n) -> x.share(2, n));
        bounds("18: flat", 0, 6173, 2, 2467, (x, n) -> x.balance(n, 9));
        bounds("18: year", 0, 2173, 9, 2467, (x, n) -> x.balance(2, n));
        // The cent that kind 1 costs more in its second edition is flat 0's: 389 of 778, 388.5 of 777.
        bounds("19: flat", 0, 1, 2, 0, (x, n) -> x.difference(n, 0));
        bounds("19: year", 0, 1, 9, 0, (x, n) -> x.difference(0, n));
    }

    private static void part() {
        bounds("17: flat", 0, 0, 2, 2468, (x, n) -> x.part(n, 0, 9));
        bounds("17: who", 0, 0, 2, 6173, (x, n) -> x.part(0, n, 9));
        bounds("17: who, where nobody moved", 0, 2468, 0, 2468, (x, n) -> x.part(2, n, 9));
        bounds("17: year", 0, 0, 9, 6173, (x, n) -> x.part(0, 2, n));
    }
}
