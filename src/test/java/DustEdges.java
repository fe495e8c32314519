/** The boundary cases of dust and the bank: promises 12 to 14 and 25, and the terms on them. */
final class DustEdges {
    private static final int NONE = NuggetCamp.NONE;
    private static final Check.Story NEW = c -> { };

    private DustEdges() {
    }

    static void tell() {
        brass();
        brassRefused();
        sell();
        sellRefused();
        brassAmongTheDust();
        pay();
        theTest();
        largest();
        rate();
        ofMiner();
        ofMinerAtTheEnds();
    }

    /** Miner 0 has so much gold, at most 1000, and brass; miner 1 is dead on day 5. */
    private static Check.Story dust(int gold, int brass) {
        return c -> {
            c.ground(0, 2 * gold, 0);
            c.miner(1000, 7);
            c.miner(0, 0);
            c.peg(0, 0, 1);
            c.right(0, 40);
            c.work(0, 0, NuggetCamp.MONITOR);
            for (int left = brass; left > 0; left -= 10000) {
                c.brass(0, Math.min(left, 10000));
            }
        };
    }

    private static void brass() {
        Check.Story none = dust(0, 0);
        Book.says(12, "Puts BRASS among the dust of a miner.");
        Check.answers("of one without gold", none, c -> c.brass(0, 1) + c.ofMiner(0, 0), 1);

        Book.says(12, "- `miner`: a miner");
        Range.indexes(none, (c, miner) -> c.brass(miner, 1), 0, 1);

        Book.says(12, "- `grains`: 1 to 10000");
        Range.arguments(none, (c, grains) -> c.brass(0, grains), 1, 10000);

        Book.says(12, "Returns the BRASS then.");
        Check.answers("the least", none, c -> c.brass(0, 1), 1);
        Check.answers("the most at once", none, c -> c.brass(0, 10000), 10000);
        Check.answers("beside what is there", dust(0, 1), c -> c.brass(0, 10000), 10001);
        Check.answers("the most", dust(0, 99999), c -> c.brass(0, 1), 100000);

        Book.says(Book.TERMS, "A miner can put BRASS among the dust.");
        Check.answers("no gold comes by it", Check.then(none, c -> c.brass(0, 10000)),
                c -> c.gold(4), 0);
        Check.answers("more than once on a day", dust(0, 20000), c -> c.ofMiner(0, 1), 20000);
    }

    private static void brassRefused() {
        Book.says(12, "Throws `IndexOutOfBoundsException` if there is no such miner");
        Range.badIndexes(dust(0, 0), (c, miner) -> c.brass(miner, 1), -1, 2);
        Check.badIndex("no miner yet", NEW, c -> c.brass(0, 1));

        Book.says(12, "Throws `IllegalArgumentException` if grains is out of range");
        Range.badArguments(dust(0, 0), (c, grains) -> c.brass(0, grains), -1, 0, 10001);

        Book.says(12, "Throws `IllegalStateException` if the miner is DEAD, or would have more than"
                + " 100000");
        Check.takes("just 100000, by one", dust(0, 99999), c -> c.brass(0, 1));
        Check.badState("100001, by two", dust(0, 99999), c -> c.brass(0, 2));
        Check.takes("just 100000, by the most", dust(0, 90000), c -> c.brass(0, 10000));
        Check.badState("100001, by the most", dust(0, 90001), c -> c.brass(0, 10000));
        Check.badState("100001, by one", dust(0, 100000), c -> c.brass(0, 1));
        Check.answers("gold does not count", dust(1000, 99999), c -> c.brass(0, 1), 100000);
        Check.takes("on the day before death", Check.then(dust(0, 0), c -> c.pass(4)),
                c -> c.brass(1, 1));
        Check.badState("dead", Check.then(dust(0, 0), c -> c.pass(5)), c -> c.brass(1, 1));
    }

    private static void sell() {
        Check.Story some = dust(1000, 50);
        Book.says(13, "Sells dust to the bank.");
        Check.answers("all of it", Check.then(some, c -> c.sell(0, 1050)),
                c -> c.ofMiner(0, 0) + c.ofMiner(0, 1), 0);
        Check.answers("the bank has it", Check.then(some, c -> c.sell(0, 1050)),
                c -> c.gold(3), 1000);

        Book.says(13, "- `miner`: a miner");
        Check.Story both = Check.then(some, c -> c.brass(1, 1));
        Range.indexes(both, (c, miner) -> c.sell(miner, 1), 0, 1);

        Book.says(13, "- `dust`: 1 to 1000000");
        Range.allowed(some, (c, dust) -> c.sell(0, dust), 1, 1050);
        Range.badArguments(some, (c, dust) -> c.sell(0, dust), Integer.MIN_VALUE, 0, 1000001,
                Integer.MAX_VALUE);
        // Nobody can have a million in 512 calls, so that the most is in its range but refused.
        Check.badState("the most", some, c -> c.sell(0, 1000000));

        Book.says(13, "Returns the COINS that it pays; NONE if the miner is caught.");
        Check.answers("one", some, c -> c.sell(0, 1), 1);
        Check.answers("less than a coin is 0, not NONE", Check.then(some, c -> c.rate(1)),
                c -> c.sell(0, 9), 0);
        Check.answers("caught", dust(18, 1), c -> c.sell(0, 1), -1);
    }

    private static void sellRefused() {
        Book.says(13, "Throws `IndexOutOfBoundsException` if there is no such miner");
        Range.badIndexes(dust(1000, 0), (c, miner) -> c.sell(miner, 1), -1, 2);
        Check.badIndex("no miner yet", NEW, c -> c.sell(0, 1));

        Book.says(13, "Throws `IllegalArgumentException` if dust is out of range");
        Range.badArguments(dust(1000, 0), (c, dust) -> c.sell(0, dust), -1, 0, 1000001);

        Book.says(13, "Throws `IllegalStateException` if the miner is DEAD, or has less GOLD and"
                + " BRASS, together");
        Check.takes("all gold", dust(1000, 0), c -> c.sell(0, 1000));
        Check.badState("one more than the gold", dust(1000, 0), c -> c.sell(0, 1001));
        Check.takes("all, together", dust(1000, 50), c -> c.sell(0, 1050));
        Check.badState("one more, together", dust(1000, 50), c -> c.sell(0, 1051));
        Check.takes("all brass", dust(0, 1), c -> c.sell(0, 1));
        Check.badState("one more than the brass, not tested", dust(0, 1), c -> c.sell(0, 2));
        Check.badState("nothing at all", dust(0, 0), c -> c.sell(0, 1));
        Check.badState("all is sold", Check.then(dust(1000, 0), c -> c.sell(0, 1000)),
                c -> c.sell(0, 1));
        Check.Story dying = c -> {
            c.ground(0, 20, 0);
            c.miner(0, 0);
            c.work(0, 0, NuggetCamp.PAN);
            c.pass(4);
        };
        Check.takes("on the day before death", dying, c -> c.sell(0, 18));
        Check.badState("dead", Check.then(dying, c -> c.pass(1)), c -> c.sell(0, 18));
        Check.badState("dead, not tested", Check.then(dust(0, 0), c -> {
            c.brass(1, 1);
            c.pass(5);
        }), c -> c.sell(1, 1));
    }

    private static void brassAmongTheDust() {
        Book.says(Book.TERMS, "To sell so much dust, at most GOLD and BRASS, together, is this: of it"
                + " the BRASS is the dust times the BRASS, divided by (GOLD and BRASS, together), the"
                + " rest GOLD");
        int[][] rows = {{950, 50, 19, 0}, {950, 50, 20, 1}, {950, 50, 39, 1}, {950, 50, 40, 2},
            {950, 50, 999, 49}, {950, 50, 1000, 50}, {1000, 0, 1000, 0}, {19, 1, 19, 0},
            {19, 1, 20, 1}, {1000, 1, 1000, 0}, {1000, 1, 1001, 1}};
        for (int[] row : rows) {
            Check.Story sold = Check.then(dust(row[0], row[1]), c -> c.sell(0, row[2]));
            Check.answers("brass of " + row[2], sold, c -> c.ofMiner(0, 1), row[1] - row[3]);
            Check.answers("gold of " + row[2], sold, c -> c.ofMiner(0, 0),
                    row[0] - (row[2] - row[3]));
            Check.answers("the bank's of " + row[2], sold, c -> c.gold(3), row[2] - row[3]);
        }
    }

    private static void pay() {
        Book.says(Book.TERMS, "the bank gets both, and pays the dust times the rate, divided by 10, in"
                + " COINS");
        int[][] rows = {{1, 1, 0}, {1, 9, 0}, {1, 10, 1}, {1, 19, 1}, {9, 1, 0}, {9, 2, 1},
            {10, 1, 1}, {11, 9, 9}, {11, 10, 11}, {99, 1, 9}, {100, 1, 10}, {100, 1000, 10000}};
        for (int[] row : rows) {
            Check.Story rated = Check.then(dust(1000, 0), c -> c.rate(row[0]));
            Check.answers(row[1] + " at the rate " + row[0], rated, c -> c.sell(0, row[1]), row[2]);
            Check.answers("the coins then", Check.then(rated, c -> c.sell(0, row[1])),
                    c -> c.ofMiner(0, 3), 7 + row[2]);
        }
        Check.answers("brass is paid as gold", dust(950, 50), c -> c.sell(0, 1000), 1000);
        Check.answers("the bank keeps what it has", Check.then(dust(1000, 0), c -> {
            c.sell(0, 999);
            c.sell(0, 1);
        }), c -> c.gold(3), 1000);
    }

    private static void theTest() {
        Book.says(Book.TERMS, "But if the BRASS of a miner, times 20, is more than GOLD and BRASS,"
                + " together, the bank tests it: it pays nothing, gets nothing, and the miner is"
                + " caught one time more.");
        int[][] taken = {{20, 1}, {19, 1}, {950, 50}, {1000, 52}, {1, 0}};
        for (int[] row : taken) {
            Check.answers(row[0] + " and " + row[1], dust(row[0], row[1]), c -> c.sell(0, 1), 1);
            Check.answers("not caught", Check.then(dust(row[0], row[1]), c -> c.sell(0, 1)),
                    c -> c.ofMiner(0, 6), 0);
        }
        int[][] tested = {{18, 1}, {949, 50}, {1000, 53}, {0, 1}, {0, 100000}, {1000, 100000}};
        for (int[] row : tested) {
            Check.Story sold = Check.then(dust(row[0], row[1]), c -> c.sell(0, 1));
            int[] due = {row[0], row[1], 1000, 7, 10, 40, 1, 0};
            Check.answers(row[0] + " and " + row[1], dust(row[0], row[1]), c -> c.sell(0, 1), NONE);
            for (int what = 0; what < due.length; what++) {
                int asked = what;
                Check.answers("ofMiner " + what, sold, c -> c.ofMiner(0, asked), due[what]);
            }
            Check.answers("the bank has none", sold, c -> c.gold(3), 0);
        }
        Check.answers("one time more each time", Check.then(dust(18, 1), c -> {
            c.sell(0, 1);
            c.sell(0, 19);
            c.sell(0, 2);
        }), c -> c.ofMiner(0, 6), 3);
        Check.answers("a refused sale is not tested", Check.then(dust(18, 1), c ->
                Check.thrownBy(c, x -> x.sell(0, 20))), c -> c.ofMiner(0, 6), 0);
        Check.answers("sold down to all brass", Check.then(dust(19, 1), c -> c.sell(0, 19)),
                c -> c.sell(0, 1), NONE);
    }

    /**
     * As much gold as 512 calls bring to one miner, who backs all the others: 12 monitors on each of
     * 32 days. The product of dust and brass is far beyond the largest int then.
     */
    private static void largest() {
        NuggetCamp camp = new NuggetCamp();
        camp.flow(1000);
        for (int miner = 0; miner < 12; miner++) {
            camp.ground(3 * miner, 100000, 0);
            camp.miner(1000, 0);
            camp.peg(miner, 3 * miner, 1);
            camp.right(miner, 40);
            if (miner > 0) {
                camp.back(0, miner, 100, 0);
            }
        }
        for (int day = 0; day < 32; day++) {
            for (int miner = 0; miner < 12; miner++) {
                camp.work(miner, 3 * miner, NuggetCamp.MONITOR);
            }
            camp.pass(1);
        }
        Check.due("gold at its largest", camp.ofMiner(0, 0), 384000);
        camp.brass(0, 10000);
        camp.brass(0, 10000);
        Check.due("the pay at its largest", camp.rate(100) * 10000000L + camp.sell(0, 403999),
                100000000L + 4039990);
        Check.due("the brass that is left", camp.ofMiner(0, 1), 1);
        Check.due("the gold that is left", camp.ofMiner(0, 0), 0);
        Check.due("the bank's", camp.gold(3), 384000);
        Check.due("the coins", camp.ofMiner(0, 3), 4039990);
    }

    private static void rate() {
        Book.says(14, "Tells the rate of the bank.");
        Check.answers("it counts at once", Check.then(dust(1000, 0), c -> c.rate(100)),
                c -> c.sell(0, 1000), 10000);

        Book.says(14, "- `rate`: 1 to 100");
        Range.arguments(NEW, (c, rate) -> c.rate(rate), 1, 100);

        Book.says(14, "Returns what it was.");
        Check.answers("the least", c -> c.rate(1), c -> c.rate(5), 1);
        Check.answers("the most", c -> c.rate(100), c -> c.rate(5), 100);
        Check.answers("behind a refused one", c -> Check.thrownBy(c, x -> x.rate(101)),
                c -> c.rate(5), 10);

        Book.says(14, "Throws `IllegalArgumentException` if rate is out of range");
        Range.badArguments(dust(1000, 0), (c, rate) -> c.rate(rate), -1, 0, 101);

        Book.says(Book.TERMS, "The bank has a rate, 10 at first.");
        Check.answers("told", NEW, c -> c.rate(10), 10);
        Check.answers("paid", dust(1000, 0), c -> c.sell(0, 999), 999);
    }

    private static void ofMiner() {
        Check.Story two = Check.then(dust(1000, 53), c -> {
            c.sell(0, 1);
            c.back(1, 0, 100, 0);
        });
        Book.says(25, "Tells something of a miner.");
        Check.answers("of a dead one", Check.then(two, c -> c.pass(5)), c -> c.ofMiner(1, 4), 0);

        Book.says(25, "- `miner`: a miner");
        Range.indexes(two, (c, miner) -> c.ofMiner(miner, 7), 0, 1);
        Range.indexes(c -> {
            for (int i = 0; i < 12; i++) {
                c.miner(0, 0);
            }
        }, (c, miner) -> c.ofMiner(miner, 0), 0, 11);

        Book.says(25, "- `what`: 0 GOLD, 1 BRASS, 2 FOOD, 3 COINS, 4 HEALTH, 5 the inches that the"
                + " miner's rights get today, together, 6 how many times caught, 7 the percent that is"
                + " backed");
        Range.arguments(two, (c, what) -> c.ofMiner(0, what), 0, 7);
        int[] due = {1000, 53, 1000, 7, 10, 40, 1, 100};
        for (int what = 0; what < due.length; what++) {
            int asked = what;
            Check.answers("what " + what, two, c -> c.ofMiner(0, asked), due[what]);
        }

        Book.says(25, "Throws `IndexOutOfBoundsException` if there is no such miner");
        Range.badIndexes(two, (c, miner) -> c.ofMiner(miner, 8), -1, 2);
        Check.badIndex("no miner yet", NEW, c -> c.ofMiner(0, 0));

        Book.says(25, "Throws `IllegalArgumentException` if what is out of range");
        Range.badArguments(two, (c, what) -> c.ofMiner(0, what), -1, 8);
    }

    private static void ofMinerAtTheEnds() {
        Book.says(25, "Returns the number.");
        int[] due = {0, 0, 0, 0, 10, 0, 0, 0};
        for (int what = 0; what < due.length; what++) {
            int asked = what;
            Check.answers("the least of " + what, c -> c.miner(0, 0), c -> c.ofMiner(0, asked),
                    due[what]);
        }
        Check.answers("the most brass", dust(0, 100000), c -> c.ofMiner(0, 1), 100000);
        Check.answers("the most food that can be bought for one's coins", c -> {
            c.miner(1000, 100000);
            for (int i = 1; i < 20; i++) {
                c.freight(1000, 1);
            }
            c.freight(949, 1);
            c.pass(1);
            for (int i = 0; i < 19; i++) {
                c.buy(0, 1000);
            }
        }, c -> c.ofMiner(0, 2) * 10 + c.ofMiner(0, 3) / 5000, 199991);
        Check.answers("coins of twelve", c -> {
            for (int i = 0; i < 12; i++) {
                c.miner(0, 100000);
            }
            for (int i = 1; i < 12; i++) {
                c.back(i, 0, 9, 100000);
            }
        }, c -> c.ofMiner(0, 3), 1200000);
        Check.answers("the percent then", c -> {
            for (int i = 0; i < 12; i++) {
                c.miner(0, 100000);
            }
            for (int i = 1; i < 12; i++) {
                c.back(i, 0, 9, 100000);
            }
        }, c -> c.ofMiner(0, 7), 99);
    }
}
