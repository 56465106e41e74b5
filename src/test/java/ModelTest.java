import java.util.Arrays;
import java.util.Random;

/** Long runs of calls, made up from fixed seeds: each answer is compared with the model's. */
public final class ModelTest {
    private static final int RUNS = 900;
    private static final int CALLS = 512;
    private static final int[] ODD = {Integer.MIN_VALUE, -1, 0, 1, 4, 10, 12, 20, 60, 100, 1000, 1001, 3650, 10_000_001,
            1_000_000_001, Integer.MAX_VALUE};

    private final Random random;
    private final BillShares real = new BillShares();
    private final Model model = new Model();
    private final int run;
    /** Runs differ in what they hold: few or many flats, one year or all, tame or huge numbers. */
    private final int mostFlats;
    private final int years;
    private final boolean huge;
    private final int[] latestDay = new int[60];
    private final int[] latestValue = new int[60];
    private int flats = 0;
    private int meters = 0;

    private ModelTest(int run) {
        this.run = run;
        random = new Random(run * 7919L + 17);
        Arrays.fill(latestDay, -1);
        mostFlats = 1 + random.nextInt(run % 5 == 0 ? 20 : 5);
        years = run % 3 == 0 ? 10 : 1 + random.nextInt(2);
        huge = run % 4 == 1;
    }

    public static void main(String[] args) {
        for (int run = 0; run < RUNS && Check.wrongSoFar() == 0; run++) {
            new ModelTest(run).go();
        }
        Check.end();
    }

    private void go() {
        for (int call = 0; call < CALLS && Check.wrongSoFar() == 0; call++) {
            if (call < mostFlats) {
                flat();
            } else if (call < CALLS / 2 || random.nextInt(3) == 0) {
                change();
            } else {
                ask();
            }
        }
    }

    private String same(String what, Check.Call ofReal, Check.Call ofModel) {
        String want = Check.answer(ofModel);
        Check.due("run " + run + ": " + what, want, Check.answer(ofReal));
        return want;
    }

    /** Mostly the number that is meant, at times one that is odd. */
    private int odd(int meant) {
        return random.nextInt(60) == 0 ? ODD[random.nextInt(ODD.length)] : meant;
    }

    private int upTo(int most) {
        int dice = random.nextInt(8);
        return dice == 0 ? 0 : dice == 1 ? most : random.nextInt(most + 1);
    }

    private int anyFlat() {
        return odd(random.nextInt(Math.max(1, flats)));
    }

    private int anyMeter() {
        return odd(random.nextInt(Math.max(1, meters)));
    }

    private int anyKind() {
        return odd(huge ? 0 : random.nextInt(4));
    }

    private int anyYear() {
        return odd(random.nextInt(years));
    }

    private int anyDay() {
        int dice = random.nextInt(6);
        int day = dice < 3 ? 365 * random.nextInt(years + 1) + random.nextInt(3) - 1 : random.nextInt(365 * years + 30);
        return odd(Math.min(3649, Math.max(0, day)));
    }

    private void flat() {
        int area = odd(huge ? (flats == 0 ? 1 : 1000) : 1 + upTo(999));
        int rank = odd(random.nextBoolean() ? random.nextInt(3) : upTo(99));
        if (!same("flat(" + area + ", " + rank + ")",
                () -> real.flat(area, rank), () -> model.flat(area, rank)).startsWith("t")) {
            flats++;
        }
    }

    private void meter() {
        int flat = huge ? 0 : anyFlat();
        int kind = anyKind();
        int above = odd(huge ? 1000 : 1 + upTo(999));
        int below = odd(huge ? 1 : 1 + upTo(random.nextBoolean() ? 3 : 999));
        int tested = random.nextInt(4) == 0 ? anyDay() : odd(3649);
        if (!same("meter(" + flat + ", " + kind + ", " + above + ", " + below + ", " + tested + ")",
                () -> real.meter(flat, kind, above, below, tested),
                () -> model.meter(flat, kind, above, below, tested)).startsWith("t")) {
            meters++;
        }
    }

    private int dayBehind(int meter) {
        if (meter < 0 || meter >= meters || random.nextInt(12) == 0) {
            return anyDay();
        }
        int far = random.nextInt(3) == 0 ? 800 : random.nextInt(2) == 0 ? 365 : 60;
        int day = latestDay[meter] < 0 ? 0 : latestDay[meter] + 1 + random.nextInt(far);
        return Math.min(3649, random.nextInt(3) == 0 ? (day + 364) / 365 * 365 : day);
    }

    private int valueBehind(int meter) {
        int least = meter < 0 || meter >= meters ? 0 : latestValue[meter];
        int room = 10_000_000 - least;
        int more = huge ? room : Math.min(room, random.nextInt(random.nextBoolean() ? 20 : 100_000));
        return odd(random.nextInt(15) == 0 ? least - 1 : random.nextInt(6) == 0 ? least : least + more);
    }

    private void reading() {
        int meter = anyMeter();
        int day = dayBehind(meter);
        int v = valueBehind(meter);
        boolean isChange = huge || random.nextInt(4) == 0;
        int start = odd(huge ? 0 : upTo(random.nextBoolean() ? 10 : 1_000_000));
        String answer = isChange
                ? same("changed(" + meter + ", " + day + ", " + v + ", " + start + ")",
                        () -> real.changed(meter, day, v, start), () -> model.changed(meter, day, v, start))
                : same("reading(" + meter + ", " + day + ", " + v + ")",
                        () -> real.reading(meter, day, v), () -> model.reading(meter, day, v));
        if (!answer.startsWith("t")) {
            latestDay[meter] = day;
            latestValue[meter] = isChange ? start : v;
        }
    }

    private void correct() {
        int meter = anyMeter();
        boolean latest = meter >= 0 && meter < meters && random.nextInt(3) > 0;
        int day = latest ? latestDay[meter] : anyDay();
        int v = latest ? valueBehind(meter) : odd(upTo(random.nextBoolean() ? 100 : 1_000_000));
        String answer = same("correct(" + meter + ", " + day + ", " + v + ")",
                () -> real.correct(meter, day, v), () -> model.correct(meter, day, v));
        if (latest && !answer.startsWith("t")) {
            latestValue[meter] = Math.max(latestValue[meter], v);
        }
    }

    private void change() {
        int dice = random.nextInt(huge ? 60 : 40);
        if (dice == 0) {
            flat();
        } else if (dice < 7) {
            meter();
        } else if (dice < 20 || dice >= 40) {
            reading();
        } else if (dice < 24) {
            correct();
        } else if (dice < 26) {
            int meter = anyMeter();
            int day = random.nextBoolean() ? 3649 : anyDay();
            same("tested(" + meter + ", " + day + ")", () -> real.tested(meter, day), () -> model.tested(meter, day));
        } else if (dice < 30) {
            int kind = anyKind();
            int year = anyYear();
            int cents = odd(huge || random.nextBoolean() ? upTo(1_000_000_000) : upTo(50));
            same("cost(" + kind + ", " + year + ", " + cents + ")",
                    () -> real.cost(kind, year, cents), () -> model.cost(kind, year, cents));
        } else if (dice < 32) {
            int kind = anyKind();
            int percent = odd(upTo(100));
            same("base(" + kind + ", " + percent + ")",
                    () -> real.base(kind, percent), () -> model.base(kind, percent));
        } else if (dice < 34) {
            int flat = anyFlat();
            int day = anyDay();
            same("moves(" + flat + ", " + day + ")", () -> real.moves(flat, day), () -> model.moves(flat, day));
        } else if (dice < 36) {
            int flat = anyFlat();
            int year = anyYear();
            int cents = odd(1 + upTo(999_999_999));
            same("prepaid(" + flat + ", " + year + ", " + cents + ")",
                    () -> real.prepaid(flat, year, cents), () -> model.prepaid(flat, year, cents));
        } else {
            int year = anyYear();
            same("run(" + year + ")", () -> real.run(year), () -> model.run(year));
        }
    }

    private void ask() {
        int flat = anyFlat();
        int meter = anyMeter();
        int kind = anyKind();
        int year = anyYear();
        int what = odd(random.nextInt(2));
        int who = odd(random.nextInt(random.nextBoolean() ? 2 : 12));
        String of = "(" + flat + ", " + year + ")";
        switch (random.nextInt(9)) {
            case 0 -> same("use(" + meter + ", " + year + ")",
                    () -> real.use(meter, year), () -> model.use(meter, year));
            case 1 -> same("barred(" + flat + ", " + kind + ", " + year + ")",
                    () -> real.barred(flat, kind, year), () -> model.barred(flat, kind, year));
            case 2 -> same("share" + of, () -> real.share(flat, year), () -> model.share(flat, year));
            case 3, 4 -> same("part(" + flat + ", " + who + ", " + year + ")",
                    () -> real.part(flat, who, year), () -> model.part(flat, who, year));
            case 5 -> same("balance" + of, () -> real.balance(flat, year), () -> model.balance(flat, year));
            case 6 -> same("difference" + of, () -> real.difference(flat, year), () -> model.difference(flat, year));
            case 7 -> same("edition(" + year + ")", () -> real.edition(year), () -> model.edition(year));
            default -> same("line(" + flat + ", " + kind + ", " + year + ", " + what + ")",
                    () -> real.line(flat, kind, year, what), () -> model.line(flat, kind, year, what));
        }
    }
}
