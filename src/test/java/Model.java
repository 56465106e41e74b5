import java.math.BigInteger;
import java.util.ArrayList;
import java.util.Comparator;
import java.util.HashMap;
import java.util.List;
import java.util.Map;
import java.util.TreeMap;
import java.util.stream.Collectors;
import java.util.stream.IntStream;

/** The document's words again, in plain Java with big numbers and maps: what BillShares is compared with. */
final class Model {
    private record Reading(int value, Integer start) {
        int goesOnFrom() {
            return start == null ? value : start;
        }
    }

    private static final class Meter {
        int flat, kind, above, below, tested;
        final TreeMap<Integer, Reading> readings = new TreeMap<>();
    }

    private record Line(long base, long used) {
    }

    private final List<int[]> flats = new ArrayList<>();
    private final List<Meter> meters = new ArrayList<>();
    private final Map<Integer, List<Integer>> moveDays = new HashMap<>();
    private final Map<List<Integer>, Integer> costs = new HashMap<>();
    private final int[] bases = {30, 30, 30, 30};
    private final Map<List<Integer>, Long> paid = new HashMap<>();
    /** Of each year all editions: of each flat in it its four lines. */
    private final Map<Integer, List<List<List<Line>>>> editions = new HashMap<>();

    private static void argument(boolean legal) {
        if (!legal) {
            throw new IllegalArgumentException();
        }
    }

    private static void state(boolean legal) {
        if (!legal) {
            throw new IllegalStateException();
        }
    }

    private static boolean in(int least, int number, int most) {
        return least <= number && number <= most;
    }

    private void needFlat(int flat) {
        argument(in(0, flat, flats.size() - 1));
    }

    private void needMeter(int meter) {
        argument(in(0, meter, meters.size() - 1));
    }

    private static long floor(long a, long b, long c) {
        return BigInteger.valueOf(a).multiply(BigInteger.valueOf(b)).divide(BigInteger.valueOf(c)).longValueExact();
    }

    int flat(int area, int rank) {
        argument(in(1, area, 1000) && in(0, rank, 99));
        state(flats.size() < 20);
        flats.add(new int[] {area, rank});
        moveDays.put(flats.size() - 1, new ArrayList<>(List.of(0)));
        return flats.size() - 1;
    }

    int meter(int flat, int kind, int above, int below, int tested) {
        needFlat(flat);
        argument(in(0, kind, 3) && in(1, above, 1000) && in(1, below, 1000) && in(0, tested, 3649));
        state(meters.size() < 60);
        Meter m = new Meter();
        m.flat = flat;
        m.kind = kind;
        m.above = above;
        m.below = below;
        m.tested = tested;
        meters.add(m);
        return meters.size() - 1;
    }

    int reading(int meter, int day, int v) {
        return add(meter, day, v, null);
    }

    int changed(int meter, int day, int end, int start) {
        argument(in(0, start, 10_000_000));
        return add(meter, day, end, start);
    }

    private int add(int meter, int day, int v, Integer start) {
        needMeter(meter);
        argument(in(0, day, 3649) && in(0, v, 10_000_000));
        TreeMap<Integer, Reading> all = meters.get(meter).readings;
        if (!all.isEmpty()) {
            argument(day > all.lastKey() && v >= all.lastEntry().getValue().goesOnFrom());
        }
        state(all.size() < 40);
        all.put(day, new Reading(v, start));
        return all.size();
    }

    int correct(int meter, int day, int v) {
        needMeter(meter);
        argument(in(0, day, 3649) && in(0, v, 10_000_000));
        TreeMap<Integer, Reading> all = meters.get(meter).readings;
        argument(all.containsKey(day));
        Reading was = all.get(day);
        Reading now = new Reading(v, was.start());
        if (all.lowerEntry(day) != null) {
            argument(v >= all.lowerEntry(day).getValue().goesOnFrom());
        }
        if (all.higherEntry(day) != null) {
            argument(all.higherEntry(day).getValue().value() >= now.goesOnFrom());
        }
        all.put(day, now);
        return was.value();
    }

    int tested(int meter, int day) {
        needMeter(meter);
        argument(in(0, day, 3649));
        int was = meters.get(meter).tested;
        meters.get(meter).tested = day;
        return was;
    }

    int cost(int kind, int year, int cents) {
        argument(in(0, kind, 3) && in(0, year, 9) && in(0, cents, 1_000_000_000));
        Integer was = costs.put(List.of(kind, year), cents);
        return was == null ? 0 : was;
    }

    int base(int kind, int percent) {
        argument(in(0, kind, 3) && in(0, percent, 100));
        int was = bases[kind];
        bases[kind] = percent;
        return was;
    }

    int moves(int flat, int day) {
        needFlat(flat);
        List<Integer> days = moveDays.get(flat);
        argument(in(0, day, 3649) && day > days.get(days.size() - 1));
        state(days.size() < 12);
        days.add(day);
        return days.size() - 1;
    }

    long prepaid(int flat, int year, int cents) {
        needFlat(flat);
        argument(in(0, year, 9) && in(1, cents, 1_000_000_000));
        return paid.merge(List.of(flat, year), (long) cents, Long::sum);
    }

    int run(int year) {
        argument(in(0, year, 9));
        List<List<List<Line>>> before = editions.computeIfAbsent(year, y -> new ArrayList<>());
        state(!flats.isEmpty() && before.size() < 50);
        List<List<Line>> edition = new ArrayList<>();
        flats.forEach(f -> edition.add(new ArrayList<>()));
        for (int kind = 0; kind < 4; kind++) {
            long cents = costs.getOrDefault(List.of(kind, year), 0);
            long basePart = floor(cents, bases[kind], 100);
            long[] base = goesBy(basePart, areas());
            long[] used = goesBy(cents - basePart, uses(kind, year));
            for (int f = 0; f < flats.size(); f++) {
                edition.get(f).add(new Line(base[f], used[f]));
            }
        }
        before.add(edition);
        return before.size();
    }

    private long[] areas() {
        return flats.stream().mapToLong(f -> f[0]).toArray();
    }

    private long[] uses(int kind, int year) {
        long uses = 0;
        long areas = 0;
        for (int f = 0; f < flats.size(); f++) {
            if (barred(f, kind, year) == 0) {
                uses += useOf(f, kind, 365 * year, 365 * year + 365);
                areas += flats.get(f)[0];
            }
        }
        long[] all = new long[flats.size()];
        long sum = 0;
        for (int f = 0; f < flats.size(); f++) {
            if (barred(f, kind, year) == 0) {
                all[f] = useOf(f, kind, 365 * year, 365 * year + 365);
            } else {
                all[f] = areas == 0 ? 0 : floor(flats.get(f)[0], uses, areas);
            }
            sum = Math.addExact(sum, all[f]);
        }
        return sum == 0 ? areas() : all;
    }

    private long[] goesBy(long part, long[] numbers) {
        long sum = 0;
        for (long number : numbers) {
            sum += number;
        }
        long[] gets = new long[numbers.length];
        long left = part;
        for (int f = 0; f < numbers.length; f++) {
            gets[f] = floor(part, numbers[f], sum);
            left -= gets[f];
        }
        List<Integer> order = IntStream.range(0, numbers.length).boxed()
                .sorted(Comparator.comparingInt((Integer f) -> flats.get(f)[1]).thenComparingInt(f -> f))
                .collect(Collectors.toList());
        for (int i = 0; left > 0; i = (i + 1) % order.size()) {
            gets[order.get(i)]++;
            left--;
        }
        return gets;
    }

    private static long tells(Meter m, int from, int to) {
        long sum = 0;
        for (int a : m.readings.keySet()) {
            Integer b = m.readings.higherKey(a);
            if (b != null) {
                long rise = m.readings.get(b).value() - m.readings.get(a).goesOnFrom();
                long up = floor(rise, Math.min(Math.max(to, a), b) - a, b - a);
                sum += up - floor(rise, Math.min(Math.max(from, a), b) - a, b - a);
            }
        }
        return floor(sum, m.above, m.below);
    }

    private long useOf(int flat, int kind, int from, int to) {
        return meters.stream().filter(m -> m.flat == flat && m.kind == kind).mapToLong(m -> tells(m, from, to)).sum();
    }

    private static int why(Meter m, int year) {
        boolean read = m.readings.floorKey(365 * year) != null && m.readings.ceilingKey(365 * year + 365) != null;
        return !read ? 2 : m.tested >= 365 * year + 365 ? 0 : 3;
    }

    long use(int meter, int year) {
        needMeter(meter);
        argument(in(0, year, 9));
        Meter m = meters.get(meter);
        return why(m, year) == 0 ? tells(m, 365 * year, 365 * year + 365) : -1;
    }

    int barred(int flat, int kind, int year) {
        needFlat(flat);
        argument(in(0, kind, 3) && in(0, year, 9));
        List<Meter> own = meters.stream().filter(m -> m.flat == flat && m.kind == kind).collect(Collectors.toList());
        return own.isEmpty() ? 1 : own.stream().mapToInt(m -> why(m, year)).filter(w -> w != 0).findFirst().orElse(0);
    }

    private List<Line> lines(int flat, int year) {
        needFlat(flat);
        argument(in(0, year, 9));
        state(edition(year) > 0);
        List<List<Line>> latest = editions.get(year).get(edition(year) - 1);
        argument(flat < latest.size());
        return latest.get(flat);
    }

    private static long sum(List<Line> lines) {
        return lines.stream().mapToLong(l -> l.base() + l.used()).sum();
    }

    long line(int flat, int kind, int year, int what) {
        argument(in(0, kind, 3) && in(0, what, 1));
        Line line = lines(flat, year).get(kind);
        return what == 1 ? line.base() : line.base() + line.used();
    }

    long share(int flat, int year) {
        return sum(lines(flat, year));
    }

    long part(int flat, int who, int year) {
        needFlat(flat);
        List<Integer> days = moveDays.get(flat);
        argument(in(0, who, days.size() - 1));
        List<Line> lines = lines(flat, year);
        int first = 365 * year;
        int end = first + 365;
        long sum = 0;
        for (int kind = 0; kind < 4; kind++) {
            long[] gets = new long[days.size()];
            long left = lines.get(kind).base() + lines.get(kind).used();
            int last = -1;
            for (int w = 0; w < days.size(); w++) {
                int from = Math.max(first, days.get(w));
                int to = Math.min(end, w + 1 < days.size() ? days.get(w + 1) : 3650);
                if (from < to) {
                    last = w;
                    gets[w] = floor(lines.get(kind).base(), to - from, 365);
                    long all = barred(flat, kind, year) == 0 ? useOf(flat, kind, first, end) : 0;
                    gets[w] += all == 0 ? floor(lines.get(kind).used(), to - from, 365)
                            : floor(lines.get(kind).used(), useOf(flat, kind, from, to), all);
                    left -= gets[w];
                }
            }
            gets[last] += left;
            sum += gets[who];
        }
        return sum;
    }

    long balance(int flat, int year) {
        return share(flat, year) - paid.getOrDefault(List.of(flat, year), 0L);
    }

    long difference(int flat, int year) {
        long now = share(flat, year);
        if (edition(year) == 1) {
            return 0;
        }
        List<List<Line>> before = editions.get(year).get(edition(year) - 2);
        return now - (flat < before.size() ? sum(before.get(flat)) : 0);
    }

    int edition(int year) {
        argument(in(0, year, 9));
        return editions.containsKey(year) ? editions.get(year).size() : 0;
    }
}
