/**
 * "A call that throws changes nothing": of two twins one gets the call that is refused, the other one does not;
 * then both are asked, and changed, in all ways, and must answer alike.
 */
final class Twins {
    interface On {
        long call(BillShares x);
    }

    private static final int YEARS = 10;
    private static final int KINDS = 4;
    /** Each probe is done on twins made anew, so that none of them comes to more than 512 calls. */
    private static final int PROBES = YEARS + 4;

    private Twins() {
    }

    static void taken(String what, long want, House house, On call) {
        BillShares x = house.make();
        Check.due(what, want, () -> call.call(x));
    }

    static void argument(String what, House house, On call) {
        refused(what, Check.ARGUMENT, house, call);
    }

    static void state(String what, House house, On call) {
        refused(what, Check.STATE, house, call);
    }

    private static void refused(String what, String want, House house, On call) {
        int wrong = Check.wrongSoFar();
        for (int probe = 0; probe < PROBES && Check.wrongSoFar() == wrong; probe++) {
            BillShares touched = house.make();
            BillShares untouched = house.make();
            Check.due(what, want, Check.answer(() -> call.call(touched)));
            compare(what + ", then ", probe, house, touched, untouched);
        }
    }

    private static void compare(String what, int probe, House house, BillShares touched, BillShares untouched) {
        String[] got = answers(probe, house, touched).split("\n");
        String[] want = answers(probe, house, untouched).split("\n");
        for (int i = 0; i < want.length; i++) {
            if (!want[i].equals(got[i])) {
                Check.due(what + "probe " + probe + " call " + i, want[i], got[i]);
                return;
            }
        }
    }

    private static String answers(int probe, House house, BillShares x) {
        StringBuilder to = new StringBuilder();
        switch (probe - YEARS) {
            case 0 -> setNumbers(to, house, x);
            case 1 -> addThings(to, house, x);
            case 2 -> correctReadings(to, house, x);
            case 3 -> runAll(to, house, x);
            default -> ask(to, house, x, probe);
        }
        return to.toString();
    }

    private static void add(StringBuilder to, Check.Call call) {
        to.append(Check.answer(call)).append('\n');
    }

    private static void ask(StringBuilder to, House house, BillShares x, int year) {
        add(to, () -> x.edition(year));
        for (int i = 0; i <= house.meters; i++) {
            int meter = i;
            add(to, () -> x.use(meter, year));
        }
        for (int i = 0; i <= house.flats; i++) {
            int flat = i;
            add(to, () -> x.balance(flat, year));
            add(to, () -> x.difference(flat, year));
            for (int j = 0; j < KINDS; j++) {
                int kind = j;
                add(to, () -> x.barred(flat, kind, year));
                add(to, () -> x.line(flat, kind, year, 0));
                add(to, () -> x.line(flat, kind, year, 1));
            }
            for (int j = 0; j < (house.flats > 4 ? 2 : 13); j++) {
                int who = j;
                add(to, () -> x.part(flat, who, year));
            }
        }
    }

    private static void setNumbers(StringBuilder to, House house, BillShares x) {
        for (int i = 0; i < KINDS; i++) {
            int kind = i;
            add(to, () -> x.base(kind, 0));
            for (int j = 0; j < YEARS; j++) {
                int year = j;
                add(to, () -> x.cost(kind, year, 0));
            }
        }
        for (int i = 0; i <= house.flats; i++) {
            int flat = i;
            for (int j = 0; j < YEARS; j++) {
                int year = j;
                add(to, () -> x.prepaid(flat, year, 1));
            }
        }
    }

    private static void addThings(StringBuilder to, House house, BillShares x) {
        for (int i = 0; i <= house.meters; i++) {
            int meter = i;
            add(to, () -> x.tested(meter, 0));
            add(to, () -> x.reading(meter, 3649, 10_000_000));
        }
        for (int i = 0; i <= house.flats; i++) {
            int flat = i;
            add(to, () -> x.moves(flat, 3649));
        }
        add(to, () -> x.flat(1, 0));
        add(to, () -> x.meter(0, 0, 1, 1, 3649));
    }

    private static void correctReadings(StringBuilder to, House house, BillShares x) {
        for (int[] reading : house.readings()) {
            int value = reading[2];
            add(to, () -> x.correct(reading[0], reading[1], value - 1));
            add(to, () -> x.correct(reading[0], reading[1], value + 1));
            add(to, () -> x.correct(reading[0], reading[1], value));
        }
        for (int i = 0; i < house.meters; i++) {
            int meter = i;
            add(to, () -> x.correct(meter, 3649, 10_000_000));
        }
    }

    private static void runAll(StringBuilder to, House house, BillShares x) {
        for (int i = 0; i < YEARS; i++) {
            int year = i;
            add(to, () -> x.run(year));
            for (int j = 0; j < house.flats; j++) {
                int flat = j;
                add(to, () -> x.share(flat, year));
                add(to, () -> x.difference(flat, year));
            }
        }
    }
}
