/**
 * The empty and the full: no flat, no meter, no reading, no run; the most of each that the document allows, and one
 * more. What is refused is refused with the exception that the document names first, and changes nothing.
 */
public final class FullTest {
    private static final int VALUE = 10_000_000;
    private static final int CENTS = 1_000_000_000;

    public static void main(String[] args) {
        nothingThere();
        newObject();
        noRun();
        notInThatRun();
        flats();
        meters();
        readings();
        readingsAndChanges();
        usesOfFullMeters();
        dwellers();
        editions();
        all512Calls();
        Check.end();
    }

    private static void nothingThere() {
        House empty = House.EMPTY;
        Twins.argument("3: no flat", empty, x -> x.meter(0, 0, 1, 1, 0));
        Twins.argument("4: no meter", empty, x -> x.reading(0, 0, 0));
        Twins.argument("5: no meter", empty, x -> x.changed(0, 0, 0, 0));
        Twins.argument("6: no meter", empty, x -> x.correct(0, 0, 0));
        Twins.argument("7: no meter", empty, x -> x.tested(0, 0));
        Twins.argument("10: no flat", empty, x -> x.moves(0, 1));
        Twins.argument("11: no flat", empty, x -> x.prepaid(0, 0, 1));
        Twins.argument("13: no meter", empty, x -> x.use(0, 0));
        Twins.argument("14: no flat", empty, x -> x.barred(0, 0, 0));
        Twins.argument("15: no flat, ahead of no run", empty, x -> x.line(0, 0, 0, 0));
        Twins.argument("16: no flat, ahead of no run", empty, x -> x.share(0, 0));
        Twins.argument("17: no flat, ahead of no run", empty, x -> x.part(0, 0, 0));
        Twins.argument("18: no flat, ahead of no run", empty, x -> x.balance(0, 0));
        Twins.argument("19: no flat, ahead of no run", empty, x -> x.difference(0, 0));
        Twins.argument("12: year -1, ahead of no flats", empty, x -> x.run(-1));
        Twins.argument("12: year 10, ahead of no flats", empty, x -> x.run(10));
        for (int i = 0; i < 10; i++) {
            int year = i;
            Twins.state("12: no flats in year " + year, empty, x -> x.run(year));
            Twins.taken("20: without an edition", 0, empty, x -> x.edition(year));
        }
        Twins.taken("2: the first flat", 0, empty, x -> x.flat(1, 0));
        Twins.taken("12: one flat is enough", 1, empty, x -> {
            x.flat(1, 0);
            return x.run(0);
        });
    }

    private static void newObject() {
        for (int i = 0; i < 4; i++) {
            int kind = i;
            Twins.taken("1: BASE of kind " + kind, 30, House.EMPTY, x -> x.base(kind, 31));
            for (int j = 0; j < 10; j++) {
                int year = j;
                Twins.taken("1: cost of kind " + kind + " in year " + year, 0, House.EMPTY,
                        x -> x.cost(kind, year, 5));
            }
        }
        Twins.taken("1: nothing is shared", 0, House.EMPTY, x -> {
            x.flat(1, 0);
            x.run(0);
            return x.share(0, 0);
        });
        Twins.taken("1: nothing is paid", 0, House.EMPTY, x -> {
            x.flat(1, 0);
            x.run(0);
            return x.balance(0, 0);
        });
        Twins.taken("1: the first meter", 0, House.EMPTY, x -> {
            x.flat(1, 0);
            return x.meter(0, 0, 1, 1, 0);
        });
        Twins.argument("1: NONE is no flat", House.SMALL, x -> x.prepaid(BillShares.NONE, 0, 1));
        Twins.argument("1: NONE is no meter", House.SMALL, x -> x.tested(BillShares.NONE, 0));
    }

    private static void noRun() {
        int year = House.NO_RUN;
        House small = House.SMALL;
        Twins.state("15: no run", small, x -> x.line(0, 0, year, 0));
        Twins.state("15: no run, base", small, x -> x.line(2, 3, year, 1));
        Twins.state("16: no run", small, x -> x.share(0, year));
        Twins.state("17: no run", small, x -> x.part(0, 0, year));
        Twins.state("18: no run", small, x -> x.balance(0, year));
        Twins.state("19: no run", small, x -> x.difference(0, year));
        // No run of that year, so none that flat 3 was not in.
        Twins.state("15: no run, the newest flat", small, x -> x.line(3, 0, year, 0));
        Twins.state("16: no run, the newest flat", small, x -> x.share(3, year));
        Twins.state("17: no run, the newest flat", small, x -> x.part(3, 0, year));
        Twins.state("18: no run, the newest flat", small, x -> x.balance(3, year));
        Twins.state("19: no run, the newest flat", small, x -> x.difference(3, year));
        for (int wrong : new int[] {-1, 4}) {
            Twins.argument("15: no such flat, ahead of no run", small, x -> x.line(wrong, 0, year, 0));
            Twins.argument("15: no such kind, ahead of no run", small, x -> x.line(0, wrong, year, 0));
            Twins.argument("15: no such what, ahead of no run", small, x -> x.line(0, 0, year, wrong));
            Twins.argument("16: no such flat, ahead of no run", small, x -> x.share(wrong, year));
            Twins.argument("17: no such flat, ahead of no run", small, x -> x.part(wrong, 0, year));
            Twins.argument("17: nobody of that number, ahead of no run", small, x -> x.part(0, wrong, year));
            Twins.argument("18: no such flat, ahead of no run", small, x -> x.balance(wrong, year));
            Twins.argument("19: no such flat, ahead of no run", small, x -> x.difference(wrong, year));
        }
        Twins.argument("15: what 2, ahead of no run", small, x -> x.line(0, 0, year, 2));
        Twins.argument("17: who 3, ahead of no run", small, x -> x.part(0, 3, year));
        Twins.argument("17: who 1 where nobody moved, ahead of no run", small, x -> x.part(3, 1, year));
        Twins.taken("20: no run", 0, small, x -> x.edition(year));
        Twins.taken("12: the first one", 1, small, x -> x.run(year));
        Twins.taken("16: behind it", 0, small, x -> {
            x.run(year);
            return x.share(3, year);
        });
    }

    private static void notInThatRun() {
        House small = House.SMALL;
        for (int i : new int[] {0, 9}) {
            int year = i;
            for (int j = 0; j < 4; j++) {
                int kind = j;
                Twins.argument("15: not there", small, x -> x.line(3, kind, year, 0));
                Twins.argument("15: not there, base", small, x -> x.line(3, kind, year, 1));
            }
            Twins.argument("16: not there", small, x -> x.share(3, year));
            Twins.argument("17: not there", small, x -> x.part(3, 0, year));
            Twins.argument("18: not there", small, x -> x.balance(3, year));
            Twins.argument("19: not there", small, x -> x.difference(3, year));
        }
        // A run of another year does not bring it into this one.
        Twins.taken("16: not there, in spite of another year's run", -1, small, x -> {
            x.run(0);
            return Check.answer(() -> x.share(3, 9)).equals(Check.ARGUMENT) ? -1 : 0;
        });
        // By areas 13636.4 of 150000; of 350000 by uses of 300 (told), 180, 120 and 60 31818.2; a cent more of each.
        Twins.taken("17: there in the next one", 13637 + 31819, small, x -> {
            x.run(1);
            return x.part(3, 0, 1);
        });
    }

    private static void flats() {
        House full = House.FULL_OF_FLATS;
        BillShares x = new BillShares();
        for (int i = 0; i < 20; i++) {
            int number = i;
            Check.due("2: flat " + number, number, () -> x.flat(1000, 99));
        }
        Twins.state("2: one more", full, y -> y.flat(1, 0));
        Twins.state("2: one more, the most", full, y -> y.flat(1000, 99));
        Twins.argument("2: area 0, ahead of 20 flats", full, y -> y.flat(0, 0));
        Twins.argument("2: area 1001, ahead of 20 flats", full, y -> y.flat(1001, 0));
        Twins.argument("2: rank -1, ahead of 20 flats", full, y -> y.flat(1, -1));
        Twins.argument("2: rank 100, ahead of 20 flats", full, y -> y.flat(1, 100));
        Twins.argument("3: flat 20", full, y -> y.meter(20, 0, 1, 1, 0));
        Twins.taken("3: flat 19", 0, full, y -> y.meter(19, 0, 1, 1, 0));
        Twins.taken("10: flat 19", 1, full, y -> y.moves(19, 1));
        Twins.argument("16: flat 20", full, y -> y.share(20, 0));
        // 3703 and 8642 by areas 1 .. 20, of 210: 352.6 and 823.04; its rank is the least.
        Twins.taken("16: flat 19", 352 + 823 + 2, full, y -> y.share(19, 0));
    }

    private static void meters() {
        House full = House.FULL_OF_METERS;
        Twins.state("3: one more, of the first flat", full, x -> x.meter(0, 0, 1, 1, 0));
        Twins.state("3: one more, of the other flat", full, x -> x.meter(1, 3, 1000, 1000, 3649));
        Twins.state("3: one more, of a kind that the flat has none of", full, x -> x.meter(0, 1, 1, 1, 3649));
        Twins.argument("3: no such flat, ahead of 60 meters", full, x -> x.meter(2, 0, 1, 1, 0));
        Twins.argument("3: kind 4, ahead of 60 meters", full, x -> x.meter(0, 4, 1, 1, 0));
        Twins.argument("3: above 0, ahead of 60 meters", full, x -> x.meter(0, 0, 0, 1, 0));
        Twins.argument("3: below 1001, ahead of 60 meters", full, x -> x.meter(0, 0, 1, 1001, 0));
        Twins.argument("3: tested 3650, ahead of 60 meters", full, x -> x.meter(0, 0, 1, 1, 3650));
        Twins.argument("4: meter 60", full, x -> x.reading(60, 0, 0));
        Twins.taken("4: meter 59", 1, full, x -> x.reading(59, 0, 0));
        Twins.argument("13: meter 60", full, x -> x.use(60, 0));
        Twins.taken("13: meter 59", BillShares.NONE, full, x -> x.use(59, 0));
        BillShares y = new BillShares();
        y.flat(1, 0);
        for (int i = 0; i < 60; i++) {
            int number = i;
            Check.due("3: meter " + number, number, () -> y.meter(0, 0, 1, 1, 3649));
        }
    }

    private static void readings() {
        House full = House.FULL_OF_READINGS;
        Twins.state("4: one more", full, x -> x.reading(0, 41, 400));
        Twins.state("4: one more, the most", full, x -> x.reading(0, 3649, VALUE));
        Twins.state("5: one more", full, x -> x.changed(0, 41, 400, 0));
        Twins.state("5: one more, the most", full, x -> x.changed(0, 3649, VALUE, VALUE));
        Twins.argument("4: the same day, ahead of 40 readings", full, x -> x.reading(0, 40, 400));
        Twins.argument("4: a fall, ahead of 40 readings", full, x -> x.reading(0, 41, 399));
        Twins.argument("4: day 3650, ahead of 40 readings", full, x -> x.reading(0, 3650, 400));
        Twins.argument("4: value over 10^7, ahead of 40 readings", full, x -> x.reading(0, 41, VALUE + 1));
        Twins.argument("5: the same day, ahead of 40 readings", full, x -> x.changed(0, 40, 400, 0));
        Twins.argument("5: a fall, ahead of 40 readings", full, x -> x.changed(0, 41, 399, 0));
        Twins.argument("5: day 3650, ahead of 40 readings", full, x -> x.changed(0, 3650, 400, 0));
        Twins.argument("5: end over 10^7, ahead of 40 readings", full, x -> x.changed(0, 41, VALUE + 1, 0));
        Twins.argument("5: start -1, ahead of 40 readings", full, x -> x.changed(0, 41, 400, -1));
        Twins.argument("5: start over 10^7, ahead of 40 readings", full, x -> x.changed(0, 41, 400, VALUE + 1));
        Twins.taken("4: the 40th", 40, full, x -> x.reading(1, 40, 390));
        Twins.taken("5: the 40th", 40, full, x -> x.changed(1, 40, 390, 0));
        Twins.taken("6: the last of 40", 400, full, x -> x.correct(0, 40, 390));
        Twins.argument("6: the last of 40 falls", full, x -> x.correct(0, 40, 389));
        Twins.taken("6: the first of 40", 10, full, x -> x.correct(0, 1, 20));
        Twins.argument("6: the first of 40 over the one behind", full, x -> x.correct(0, 1, 21));
        Twins.argument("6: behind the last of 40", full, x -> x.correct(0, 41, 400));
    }

    private static void readingsAndChanges() {
        BillShares x = new BillShares();
        x.flat(1, 0);
        x.meter(0, 0, 1, 1, 3649);
        for (int i = 0; i < 40; i++) {
            int day = i;
            Check.due("4, 5: both count", day + 1,
                    () -> day % 2 == 0 ? x.reading(0, day, 5) : x.changed(0, day, 5, 5));
        }
        Check.state("4: it has 40", () -> x.reading(0, 365, 5));
        Check.state("5: it has 40", () -> x.changed(0, 365, 5, 5));
        x.meter(0, 0, 1, 1, 3649);
        Check.due("4: another meter has its own", 1, () -> x.reading(1, 0, 0));
    }

    /** 40 readings, as few as 2 and only 1: what they tell, in a run and for one who moves. */
    private static void usesOfFullMeters() {
        BillShares x = new BillShares();
        for (int flat = 0; flat < 3; flat++) {
            x.flat(10, flat);
            x.meter(flat, 0, 1, 1, 3649);
        }
        for (int i = 0; i < 40; i++) {
            x.reading(0, i == 39 ? 365 : i, 10 * i);
        }
        x.reading(1, 0, 0);
        x.reading(1, 365, 390);
        x.reading(2, 0, 0);
        x.base(0, 0);
        x.cost(0, 0, 1170);
        x.run(0);
        Check.due("13: of 40 readings", 390, () -> x.use(0, 0));
        Check.due("13: of 2 readings", 390, () -> x.use(1, 0));
        Check.due("13: of 1 reading", BillShares.NONE, () -> x.use(2, 0));
        for (int i = 0; i < 3; i++) {
            int flat = i;
            Check.due("15: by use, or as much as the others by area", 390, () -> x.line(flat, 0, 0, 0));
        }
        x.moves(0, 38);
        Check.due("17: up to the last but one of 40 readings", 380, () -> x.part(0, 0, 0));
        Check.due("17: from it up to the last of 40 readings", 10, () -> x.part(0, 1, 0));
    }

    private static void dwellers() {
        House full = House.FULL_OF_DWELLERS;
        Twins.state("10: there were 12", full, x -> x.moves(0, 1101));
        Twins.state("10: there were 12, the last day", full, x -> x.moves(0, 3649));
        Twins.argument("10: the same day, ahead of 12", full, x -> x.moves(0, 1100));
        Twins.argument("10: a day before, ahead of 12", full, x -> x.moves(0, 1099));
        Twins.argument("10: day 3650, ahead of 12", full, x -> x.moves(0, 3650));
        Twins.argument("10: day -1, ahead of 12", full, x -> x.moves(0, -1));
        Twins.argument("10: no such flat", full, x -> x.moves(2, 1101));
        Twins.taken("10: the twelfth", 11, full, x -> x.moves(1, 1001));
        Twins.taken("17: the twelfth", 0, full, x -> x.part(0, 11, 0));
        Twins.argument("17: a thirteenth", full, x -> x.part(0, 12, 0));
        Twins.taken("17: the eleventh", 0, full, x -> x.part(1, 10, 0));
        Twins.argument("17: no twelfth yet", full, x -> x.part(1, 11, 0));
        // Of 150 and 350 100 days' worth: 41.09 and 95.8; the fourth has 65 days, and what is left.
        for (int i = 0; i < 3; i++) {
            int who = i;
            Twins.taken("17: of twelve, " + who, 41 + 95, full, x -> x.part(0, who, 0));
        }
        Twins.taken("17: of twelve, the last one in the year", 500 - 3 * 136, full, x -> x.part(0, 3, 0));
        Twins.taken("17: of twelve, not in the year", 0, full, x -> x.part(0, 4, 0));
    }

    private static void editions() {
        House full = House.FULL_OF_EDITIONS;
        Twins.state("12: there were 50", full, x -> x.run(9));
        Twins.argument("12: year 10", full, x -> x.run(10));
        Twins.taken("12: the 50th", 50, full, x -> x.run(0));
        Twins.taken("12: another year", 1, full, x -> x.run(8));
        Twins.taken("20: 50", 50, full, x -> x.edition(9));
        Twins.taken("20: 49", 49, full, x -> x.edition(0));
        Twins.taken("16: of the 50th", 100, full, x -> x.share(0, 9));
        Twins.taken("19: of the 50th", 51, full, x -> x.difference(0, 9));
        BillShares y = full.make();
        y.run(0);
        Check.state("12: and no 51st", () -> y.run(0));
    }

    /** The most editions that there can be, in just as many calls as an object is used for. */
    private static void all512Calls() {
        BillShares x = new BillShares();
        x.flat(1, 0);
        for (int i = 0; i < 500; i++) {
            int call = i;
            Check.due("12: run " + call, call / 10 + 1, () -> x.run(call % 10));
        }
        for (int i = 0; i < 10; i++) {
            int year = i;
            Check.state("12: all full, call " + (502 + year), () -> x.run(year));
        }
        Check.due("8: call 512", 0, () -> x.cost(0, 0, CENTS));
    }
}
