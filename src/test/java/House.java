/** Houses that tests begin with: each is made anew by the same calls, so two of one sort are twins. */
enum House {
    EMPTY(0, 0) {
        @Override
        void furnish(BillShares x) {
        }
    },

    /**
     * Something of everything: meters that tell, one tested no more, one not read, two changed; runs of all years
     * but NO_RUN, two of year 0; somebody moved; and at last flat 3, which no run had.
     */
    SMALL(4, 7) {
        @Override
        void furnish(BillShares x) {
            x.flat(50, 1);
            x.flat(30, 0);
            x.flat(20, 1);
            x.meter(0, 0, 1, 1, 3649);
            x.meter(1, 0, 3, 2, 3649);
            x.meter(0, 1, 1, 1, 364);
            x.meter(2, 3, 1, 1, 3649);
            x.meter(2, 1, 1, 1, 3649);
            x.meter(0, 3, 1, 1, 3649);
            x.meter(1, 2, 1, 1000, 3649);
            for (int[] reading : readings()) {
                if (reading.length == 4) {
                    x.changed(reading[0], reading[1], reading[2], reading[3]);
                } else {
                    x.reading(reading[0], reading[1], reading[2]);
                }
            }
            x.cost(0, 0, 10001);
            x.cost(1, 0, 777);
            x.cost(3, 0, 100);
            x.cost(0, 1, 500_000);
            x.cost(2, 8, 999);
            x.cost(0, 9, 12345);
            x.base(1, 0);
            x.base(2, 100);
            x.moves(0, 100);
            x.moves(0, 500);
            x.moves(1, 365);
            x.prepaid(0, 0, 5000);
            x.prepaid(2, 9, 1);
            for (int year = 0; year < 10; year++) {
                if (year != NO_RUN) {
                    x.run(year);
                }
            }
            x.cost(1, 0, 778);
            x.run(0);
            x.flat(10, 0);
        }

        @Override
        int[][] readings() {
            return new int[][] {
                {0, 0, 100}, {0, 365, 400}, {0, 730, 700},
                {1, 0, 0}, {1, 100, 50}, {1, 200, 60, 1000}, {1, 400, 1100},
                {2, 0, 5},
                {4, 0, 7}, {4, 3649, 10_000_000},
                {5, 10, 70, 40},
                {6, 0, 0}, {6, 3648, 9_999_999}};
        }
    },

    FULL_OF_FLATS(20, 0) {
        @Override
        void furnish(BillShares x) {
            for (int flat = 0; flat < 20; flat++) {
                x.flat(1 + flat, 19 - flat);
            }
            x.cost(0, 0, 12345);
            x.run(0);
        }
    },

    /** 60 meters, of two flats. */
    FULL_OF_METERS(2, 60) {
        @Override
        void furnish(BillShares x) {
            x.flat(10, 0);
            x.flat(20, 0);
            for (int meter = 0; meter < 60; meter++) {
                x.meter(meter % 2, meter % 4, 1, 1, 3649);
            }
            x.cost(0, 0, 999);
            x.run(0);
        }
    },

    /** Meter 0 has 40 readings, the last one at day 40 with 400; meter 1 has 39, up to day 39 with 390. */
    FULL_OF_READINGS(1, 2) {
        @Override
        void furnish(BillShares x) {
            x.flat(10, 0);
            x.meter(0, 0, 1, 1, 3649);
            x.meter(0, 0, 1, 1, 3649);
            for (int[] reading : readings()) {
                x.reading(reading[0], reading[1], reading[2]);
            }
        }

        @Override
        int[][] readings() {
            int[][] all = new int[79][];
            for (int i = 0; i < all.length; i++) {
                int day = i % 40 + 1;
                all[i] = new int[] {i / 40, day, 10 * day};
            }
            return all;
        }
    },

    /** Twelve lived, or live, in flat 0, the latest one from day 1100 on; eleven in flat 1, from day 1000 on. */
    FULL_OF_DWELLERS(2, 0) {
        @Override
        void furnish(BillShares x) {
            x.flat(10, 0);
            x.flat(10, 0);
            for (int i = 1; i <= 10; i++) {
                x.moves(0, 100 * i);
                x.moves(1, 100 * i);
            }
            x.moves(0, 1100);
            x.cost(0, 0, 1000);
            x.cost(0, 3, 100_000);
            x.run(0);
            x.run(3);
        }
    },

    /** 50 editions of year 9, 49 of year 0. */
    FULL_OF_EDITIONS(1, 0) {
        @Override
        void furnish(BillShares x) {
            x.flat(10, 0);
            for (int edition = 1; edition <= 49; edition++) {
                x.cost(0, 9, edition);
                x.run(9);
                x.run(0);
            }
            x.cost(0, 9, 100);
            x.run(9);
        }
    };

    /** The year of which SMALL has no run. */
    static final int NO_RUN = 7;

    final int flats;
    final int meters;

    House(int flats, int meters) {
        this.flats = flats;
        this.meters = meters;
    }

    abstract void furnish(BillShares x);

    /** All readings that it has: meter, day, value, and a start if the meter was changed then. */
    int[][] readings() {
        return new int[0][];
    }

    BillShares make() {
        BillShares x = new BillShares();
        furnish(x);
        return x;
    }
}
