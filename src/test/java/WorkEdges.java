/** The boundary cases of work: promises 9, 11 and 27, and the terms on work and salting. */
final class WorkEdges {
    private static final int PAN = NuggetCamp.PAN;
    private static final int ROCKER = NuggetCamp.ROCKER;
    private static final int MONITOR = NuggetCamp.MONITOR;

    private static final int[] INCHES = {0, 2, 10, 40};
    private static final int[] MOST = {20, 100, 400, 2000};
    private static final int[] HUNDREDTHS = {90, 70, 80, 50};

    private WorkEdges() {
    }

    static void tell() {
        work();
        workRefused();
        mayNotWork();
        turns();
        inches();
        methods();
        taken();
        backers();
        salt();
        saltRefused();
        gold();
    }

    /** Miner 0 holds the cell and the cell below it, with all water; miner 1 holds nothing. */
    private static Check.Story holding(int cell, int grains, int clay) {
        return c -> {
            c.ground(cell, grains, clay);
            c.miner(1000, 0);
            c.miner(1000, 0);
            c.peg(0, cell, cell < 39 ? 2 : 1);
            c.right(0, 100);
        };
    }

    private static Check.Story working(Check.Story story, int cell, int method) {
        return Check.then(story, c -> c.work(0, cell, method));
    }

    private static void work() {
        Check.Story held = holding(5, 100000, 0);
        Book.says(9, "Works a CELL.");
        Check.answers("on the first day", held, c -> c.work(0, 5, MONITOR), 1000);
        Check.answers("on the last day", c -> {
            c.ground(5, 100, 0);
            Check.toDay(c, 5000);
            c.miner(0, 0);
        }, c -> c.work(0, 5, PAN), 18);

        Book.says(9, "- `miner`: a miner");
        Range.indexes(held, (c, miner) -> c.work(miner, 20, PAN), 0, 1);

        Book.says(9, "- `cell`: 0 to 39");
        Range.indexes(held, (c, cell) -> c.work(0, cell, PAN), 0, 39);

        Book.says(9, "- `method`: PAN to MONITOR");
        Range.arguments(held, (c, method) -> c.work(0, 5, method), 0, 3);

        Book.says(9, "Returns what is recovered.");
        Check.answers("none", holding(5, 0, 0), c -> c.work(0, 5, PAN), 0);
        Check.answers("the least", holding(5, 2, 0), c -> c.work(0, 5, PAN), 1);
        Check.answers("the most", held, c -> c.work(0, 5, MONITOR), 1000);
        Check.answers("with the shares of backers", Check.then(held, c -> c.back(1, 0, 100, 0)),
                c -> c.work(0, 5, MONITOR), 1000);
    }

    private static void workRefused() {
        Check.Story held = holding(5, 100000, 0);
        Book.says(9, "Throws `IndexOutOfBoundsException` if there is no such miner or CELL");
        Range.badIndexes(held, (c, miner) -> c.work(miner, 20, PAN), -1, 2, 12);
        Range.badIndexes(held, (c, cell) -> c.work(0, cell, PAN), -1, 40);
        Check.badIndex("no miner yet", c -> { }, c -> c.work(0, 20, PAN));

        Book.says(9, "Throws `IllegalArgumentException` if method is out of range");
        Range.badArguments(held, (c, method) -> c.work(0, 5, method), -1, 4);

        Book.says(9, "Throws `IllegalStateException` if the miner is DEAD, worked today, may not work"
                + " the CELL by the method, or has not the inches");
        Check.Story starving = Check.then(held, c -> c.miner(0, 0));
        Check.takes("on the day before death", Check.then(starving, c -> c.pass(4)),
                c -> c.work(2, 20, PAN));
        Check.badState("dead", Check.then(starving, c -> c.pass(5)), c -> c.work(2, 20, PAN));
        Check.badState("worked today", working(held, 5, PAN), c -> c.work(0, 5, PAN));
        Check.badState("another's", held, c -> c.work(1, 5, PAN));
        Check.badState("without inches", Check.then(held, c -> c.flow(39)),
                c -> c.work(0, 5, MONITOR));
    }

    private static void mayNotWork() {
        Check.Story held = holding(5, 100000, 0);
        Book.says(Book.TERMS, "the CELL is of a claim that the miner holds, or of none that is held,"
                + " and then by PAN alone");
        Range.allowed(held, (c, method) -> c.work(0, 5, method), 0, 1, 2, 3);
        Range.allowed(held, (c, method) -> c.work(0, 6, method), 0, 1, 2, 3);
        Check.takes("the cell above it by pan", held, c -> c.work(0, 4, PAN));
        Check.takes("the cell below it by pan", held, c -> c.work(0, 7, PAN));
        Range.badStates(held, (c, method) -> c.work(0, 4, method), 1, 2, 3);
        Range.badStates(held, (c, method) -> c.work(0, 7, method), 1, 2, 3);
        Range.badStates(held, (c, method) -> c.work(1, 6, method), 0, 1, 2, 3);
        Check.takes("beside another's", held, c -> c.work(1, 4, PAN));
        Check.Story lastDay = Check.then(held, c -> c.pass(7));
        Check.takes("its own on the last day", lastDay, c -> c.work(0, 5, MONITOR));
        Check.badState("another's on the last day", lastDay, c -> c.work(1, 5, PAN));
        Check.Story lapsed = Check.then(held, c -> c.pass(8));
        Range.badStates(lapsed, (c, method) -> c.work(0, 5, method), 1, 2, 3);
        Check.takes("its lapsed one by pan", lapsed, c -> c.work(0, 5, PAN));
        Check.takes("another's lapsed one by pan", lapsed, c -> c.work(1, 5, PAN));
        Check.Story sold = Check.then(held, c -> c.trade(0, 1, 0));
        Check.badState("what is sold", sold, c -> c.work(0, 5, PAN));
        Check.takes("what is bought", sold, c -> c.work(1, 5, PAN));
        Check.answers("where nobody pegged", Check.then(held, c -> c.work(1, 4, PAN)),
                c -> c.ofClaim(0, 4), 0);
    }

    private static void turns() {
        Check.Story held = holding(5, 100000, 0);
        Book.says(Book.TERMS, "A miner works a CELL by a method, once on each day, whichever CELL it"
                + " is");
        Check.badState("the same cell", working(held, 5, PAN), c -> c.work(0, 5, MONITOR));
        Check.badState("another cell", working(held, 5, PAN), c -> c.work(0, 20, PAN));
        Check.badState("behind a cell without grains", working(held, 20, PAN),
                c -> c.work(0, 5, PAN));
        Check.takes("on the next day", Check.then(working(held, 5, PAN), c -> c.pass(1)),
                c -> c.work(0, 5, PAN));
        Check.takes("another miner", working(held, 20, PAN), c -> c.work(1, 20, PAN));
        Check.takes("behind a refused one", Check.then(held, c ->
                Check.thrownBy(c, x -> x.work(0, 4, ROCKER))), c -> c.work(0, 5, PAN));
        Check.badState("on the first day", working(held, 20, PAN), c -> c.work(0, 20, PAN));
        Check.badState("on the last day", c -> {
            Check.toDay(c, 5000);
            c.miner(0, 0);
            c.work(0, 0, PAN);
        }, c -> c.work(0, 0, PAN));

        Book.says(Book.TERMS, "it may have no GRAINS");
        Range.allowed(held, (c, method) -> c.work(0, 6, method), 0, 1, 2, 3);
        Check.answers("nothing is recovered", held, c -> c.work(0, 6, MONITOR), 0);
        Check.answers("nothing goes down", working(held, 6, MONITOR), c -> c.gold(0), 100000);
        Check.answers("it counts as worked", Check.then(Check.then(held, c -> c.pass(3)),
                c -> c.work(0, 6, PAN)), c -> c.ofClaim(0, 4), 3);
    }

    private static void inches() {
        Check.Story held = holding(5, 100000, 0);
        Book.says(Book.TERMS, "and the miner gets as many inches as the method needs, or more");
        for (int method = PAN; method <= MONITOR; method++) {
            int by = method;
            Check.Story enough = Check.then(held, c -> c.flow(INCHES[by]));
            Check.takes("just enough for " + by, enough, c -> c.work(0, 5, by));
            Check.takes("more than enough for " + by, Check.then(held, c -> c.flow(INCHES[by] + 1)),
                    c -> c.work(0, 5, by));
            if (method > PAN) {
                Check.badState("one too few for " + by, Check.then(held,
                        c -> c.flow(INCHES[by] - 1)), c -> c.work(0, 5, by));
            }
        }
        Check.Story two = c -> {
            c.miner(0, 0);
            c.miner(0, 0);
            c.peg(0, 5, 1);
            c.right(1, 61);
            c.right(0, 20);
            c.right(0, 20);
        };
        Check.answers("two rights, one cut by the flow", two, c -> c.ofMiner(0, 5), 39);
        Check.badState("they are one too few", two, c -> c.work(0, 5, MONITOR));
        Check.takes("they are just enough", Check.then(two, c -> c.flow(101)),
                c -> c.work(0, 5, MONITOR));
    }

    private static void methods() {
        Book.says(Book.TERMS, "need 0, 2, 10 and 40 inches");
        for (int method = PAN; method <= MONITOR; method++) {
            int by = method;
            Check.takes("just its inches by " + by, Check.then(holding(5, 1, 0),
                    c -> c.flow(INCHES[by])), c -> c.work(0, 5, by));
        }

        Book.says(Book.TERMS, "take at most 20, 100, 400 and 2000 GRAINS");
        for (int method = PAN; method <= MONITOR; method++) {
            int by = method;
            int most = MOST[method];
            for (int grains : new int[] {most - 1, most, most + 1, 100000}) {
                int taken = Math.min(grains, most);
                Check.answers(grains + " by " + by, holding(39, grains, 0),
                        c -> c.work(0, 39, by), taken * HUNDREDTHS[by] / 100);
                Check.answers("left of " + grains + " by " + by, working(holding(39, grains, 0), 39,
                        by), c -> c.gold(0), grains - taken);
            }
        }

        Book.says(Book.TERMS, "and recover 90, 70, 80 and 50 hundredths, each less 3 for each 1 of"
                + " CLAY");
        int[][] due = {{18, 17, 12}, {70, 67, 43}, {320, 308, 212}, {1000, 940, 460}};
        int[] clays = {0, 1, 9};
        for (int i = 0; i < 12; i++) {
            int by = i / 3;
            Check.answers("clay " + clays[i % 3] + " by " + by, holding(39, 5000, clays[i % 3]),
                    c -> c.work(0, 39, by), due[by][i % 3]);
        }
        for (int clay = 0; clay <= 9; clay++) {
            for (int i = 0; i < 4 * 20; i++) {
                int by = i / 20;
                int grains = 1 + i % 20;
                Check.answers("clay " + clay + ", " + grains + " by " + by, holding(39, grains, clay),
                        c -> c.work(0, 39, by), grains * (HUNDREDTHS[by] - 3 * clay) / 100);
            }
        }
    }

    private static void taken() {
        Book.says(Book.TERMS, "What is taken is at most what the CELL has");
        for (int method = PAN; method <= MONITOR; method++) {
            int by = method;
            Check.answers("none by " + by, holding(39, 0, 0), c -> c.work(0, 39, by), 0);
            Check.answers("one by " + by, holding(39, 1, 0), c -> c.work(0, 39, by), 0);
            Check.answers("ten by " + by, holding(39, 10, 0), c -> c.work(0, 39, by),
                    HUNDREDTHS[by] / 10);
            Check.answers("none is left by " + by, working(holding(39, 10, 0), 39, by),
                    c -> c.gold(0), 0);
        }

        Book.says(Book.TERMS, "of that, times those hundredths, divided by 100, is recovered");
        Check.answers("99 hundredths and less", holding(39, 1, 0), c -> c.work(0, 39, PAN), 0);
        Check.answers("just one", holding(39, 10, 0), c -> c.work(0, 39, MONITOR), 5);
        Check.answers("one and less than two", holding(39, 3, 0), c -> c.work(0, 39, MONITOR), 1);
        Check.answers("just two", holding(39, 4, 0), c -> c.work(0, 39, MONITOR), 2);

        Book.says(Book.TERMS, "the rest goes to the CELL below, whose GRAINS are more by it, or into"
                + " the sea");
        Check.answers("from 0 to 1", working(holding(0, 2000, 9), 0, MONITOR), c -> c.sample(1), 15);
        Check.answers("from 38 to 39", working(holding(38, 2000, 9), 38, MONITOR),
                c -> c.sample(39), 15);
        Check.answers("from 38, none in the sea", working(holding(38, 2000, 9), 38, MONITOR),
                c -> c.gold(1), 0);
        Check.answers("from 39 into the sea", working(holding(39, 2000, 9), 39, MONITOR),
                c -> c.gold(1), 1540);
        Check.answers("beyond the most that can be told", c -> {
            c.ground(6, 100000, 0);
            working(holding(5, 2000, 9), 5, MONITOR).tell(c);
        }, c -> c.gold(0) + c.sample(6), 101540 + 1015);
        Check.answers("no rest of none", working(holding(39, 0, 9), 39, MONITOR), c -> c.gold(1), 0);
    }

    /** Miner 0 has worked with the backers 1 to 11 on grains that all are taken by the monitor. */
    private static Check.Story backed(int grains, int... percents) {
        return c -> {
            c.ground(0, grains, 0);
            for (int i = 0; i < 12; i++) {
                c.miner(100, 0);
            }
            c.peg(0, 0, 1);
            c.right(0, 40);
            for (int i = 0; i < percents.length; i++) {
                c.back(i + 1, 0, percents[i], 0);
            }
            c.work(0, 0, MONITOR);
        };
    }

    private static void dueGold(String what, Check.Story story, int... due) {
        for (int i = 0; i < due.length; i++) {
            int miner = i;
            Check.answers(what + ", miner " + i, story, c -> c.ofMiner(miner, 0), due[i]);
        }
    }

    private static void backers() {
        Book.says(Book.TERMS, "Of what is recovered each backer of the miner gets their percent,"
                + " divided by 100, of all of it, rounded down, a DEAD one too; the rest is the"
                + " miner's.");
        dueGold("all of it", backed(2000, 100), 0, 1000, 0);
        dueGold("nearly all", backed(2000, 99), 10, 990);
        dueGold("a hundredth of 100", backed(200, 1), 99, 1);
        dueGold("a hundredth of 99", backed(198, 1), 99, 0);
        dueGold("two halves of an odd number", backed(6, 50, 50), 1, 1, 1);
        dueGold("none of none", backed(0, 100), 0, 0);
        dueGold("all percent of one", backed(2, 99, 1), 1, 0, 0);
        dueGold("of all of it, not of what others leave", backed(2000, 50, 50), 0, 500, 500);
        dueGold("eleven backers", backed(40, 9, 9, 9, 9, 9, 9, 9, 9, 9, 9, 9),
                9, 1, 1, 1, 1, 1, 1, 1, 1, 1, 1, 1);
        dueGold("without backers", backed(2000), 1000, 0);
        Check.Story deadBacker = c -> {
            c.ground(0, 20, 0);
            c.miner(100, 0);
            c.miner(0, 0);
            c.back(1, 0, 50, 0);
            c.pass(5);
            c.work(0, 0, PAN);
        };
        dueGold("a dead one", deadBacker, 9, 9);
        dueGold("an ended one", c -> {
            c.ground(0, 20, 0);
            c.miner(100, 0);
            c.miner(0, 0);
            c.back(1, 0, 50, 0);
            c.end(1, 0);
            c.work(0, 0, PAN);
        }, 18, 0);
    }

    /** Miner 0 has 11,000 gold, miner 1 none; the cell 39 has the most that can be told. */
    private static final Check.Story RICH = c -> {
        c.ground(0, 50000, 0);
        c.ground(39, 100000, 0);
        c.miner(1000, 0);
        c.miner(1000, 0);
        c.peg(0, 0, 1);
        c.right(0, 40);
        for (int i = 0; i < 11; i++) {
            c.work(0, 0, MONITOR);
            c.pass(1);
        }
    };

    private static void salt() {
        Book.says(11, "Salts a CELL.");
        Check.answers("the gold is in the ground", Check.then(RICH, c -> c.salt(0, 20, 10000)),
                c -> c.sample(20) * 10000 + c.ofMiner(0, 0), 1001000);

        Book.says(11, "- `miner`: a miner");
        Check.Story eachHasGold = backed(2000, 9, 9, 9, 9, 9, 9, 9, 9, 9, 9, 9);
        Range.indexes(eachHasGold, (c, miner) -> c.salt(miner, 0, 1), 0, 11);

        Book.says(11, "- `cell`: 0 to 39");
        Range.indexes(RICH, (c, cell) -> c.salt(0, cell, 1), 0, 39);

        Book.says(11, "- `grains`: 1 to 10000");
        Range.arguments(RICH, (c, grains) -> c.salt(0, 20, grains), 1, 10000);

        Book.says(11, "Returns the GRAINS of the CELL then.");
        Check.answers("the least", RICH, c -> c.salt(0, 20, 1), 1);
        Check.answers("the most", RICH, c -> c.salt(0, 39, 10000), 110000);
        Check.answers("the most again", Check.then(RICH, c -> c.salt(0, 39, 10000)),
                c -> c.salt(0, 39, 1000), 111000);

        Book.says(Book.TERMS, "To salt a CELL puts GOLD of a miner into it, as GRAINS.");
        Check.answers("all the gold", Check.then(RICH, c -> {
            c.salt(0, 20, 1000);
            c.salt(0, 20, 10000);
        }), c -> c.ofMiner(0, 0), 0);
        Check.answers("it can be dug", Check.then(RICH, c -> c.salt(0, 20, 1)),
                c -> c.work(1, 20, PAN) + c.gold(4), 150000);
        Check.answers("a held claim's", Check.then(RICH, c -> c.peg(1, 20, 1)),
                c -> c.salt(0, 20, 1), 1);
        Check.takes("behind work on the same day", Check.then(RICH, c -> c.work(0, 0, PAN)),
                c -> c.salt(0, 0, 1));
        Check.takes("twice on the same day", Check.then(RICH, c -> c.salt(0, 0, 1)),
                c -> c.salt(0, 0, 1));
    }

    private static void saltRefused() {
        Book.says(11, "Throws `IndexOutOfBoundsException` if there is no such miner or CELL");
        Range.badIndexes(RICH, (c, miner) -> c.salt(miner, 0, 1), -1, 2);
        Range.badIndexes(RICH, (c, cell) -> c.salt(0, cell, 1), -1, 40);

        Book.says(11, "Throws `IllegalArgumentException` if grains is out of range");
        Range.badArguments(RICH, (c, grains) -> c.salt(0, 0, grains), -1, 0, 10001, 11000);

        Book.says(11, "Throws `IllegalStateException` if the miner is DEAD, or has less GOLD");
        Check.Story some = c -> {
            c.ground(0, 20, 0);
            c.miner(0, 0);
            c.miner(0, 0);
            c.work(0, 0, PAN);
            c.brass(0, 100);
        };
        Check.takes("all the gold", some, c -> c.salt(0, 0, 18));
        Check.badState("one more", some, c -> c.salt(0, 0, 19));
        Check.badState("without gold", some, c -> c.salt(1, 0, 1));
        Check.badState("the gold is gone", Check.then(some, c -> c.salt(0, 0, 18)),
                c -> c.salt(0, 0, 1));
        Check.takes("on the day before death", Check.then(some, c -> c.pass(4)),
                c -> c.salt(0, 0, 18));
        Check.badState("dead", Check.then(some, c -> c.pass(5)), c -> c.salt(0, 0, 1));
        Check.badState("the most, with one less", Check.then(RICH, c -> c.salt(0, 0, 1001)),
                c -> c.salt(0, 0, 10000));
    }

    private static void gold() {
        Check.Story most = c -> {
            for (int cell = 0; cell < 40; cell++) {
                c.ground(cell, 100000, 9);
            }
        };
        Book.says(27, "Returns a sum of gold.");
        Check.answers("a new creek's", c -> { }, c -> c.gold(4), 0);
        Check.answers("the most", most, c -> c.gold(0), 4000000);

        Book.says(27, "- `what`: 0 all that is in the ground, 1 in the sea, 2 the GOLD of all miners,"
                + " 3 of the bank, 4 all of these");
        Range.arguments(most, (c, what) -> c.gold(what), 0, 4);
        Check.Story spread = Check.then(RICH, c -> {
            c.work(1, 39, PAN);
            c.work(0, 0, PAN);
            c.brass(1, 10000);
            c.sell(0, 6000);
        });
        int[] due = {50000 - 11018 + 100000 - 20, 2, 5018 + 18, 6000, 150000};
        for (int what = 0; what < due.length; what++) {
            int asked = what;
            Check.answers("what " + what, spread, c -> c.gold(asked), due[what]);
        }

        Book.says(27, "Returns the grains.");
        Check.answers("all of the most", Check.then(most, c -> {
            c.miner(0, 0);
            c.work(0, 39, PAN);
        }), c -> c.gold(4), 4000000);

        Book.says(27, "Throws `IllegalArgumentException` if what is out of range");
        Range.badArguments(most, (c, what) -> c.gold(what), -1, 5);
    }
}
