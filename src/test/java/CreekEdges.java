/** The boundary cases of the creek: promises 1 to 3 and 10, and the terms on ground and division. */
final class CreekEdges {
    private static final int PAN = NuggetCamp.PAN;
    private static final int MONITOR = NuggetCamp.MONITOR;
    private static final Check.Story NEW = c -> { };

    private CreekEdges() {
    }

    static void tell() {
        newObject();
        ground();
        groundIsOpen();
        flow();
        sample();
        theCreek();
        numbers();
        manyCalls();
        allPlacesTaken();
    }

    private static void newObject() {
        Book.says(1, "A creek without gold and miners, on the day 0.");
        for (int what = 0; what < 5; what++) {
            int asked = what;
            Check.answers("gold " + what, NEW, c -> c.gold(asked), 0);
        }
        Check.answers("the day", NEW, c -> c.day(), 0);
        Check.answers("miners", NEW, c -> c.camp(5), 0);
        Check.badIndex("no miner yet", NEW, c -> c.ofMiner(0, 0));
        Check.badIndex("no claim yet", NEW, c -> c.ofClaim(0, 0));
        Check.badIndex("no right yet", NEW, c -> c.gets(0));
        Check.answers("no freight yet", NEW, c -> c.camp(4), 0);
    }

    private static Check.Story pannedOn(int cell, int grains, int clay) {
        return c -> {
            c.ground(cell, grains, clay);
            c.miner(300, 0);
            c.miner(300, 0);
            c.work(0, cell, PAN);
        };
    }

    private static void ground() {
        Book.says(2, "Tells the ground of a CELL, in place of what it was.");
        Check.answers("the grains, from most to none", c -> {
            c.ground(0, 100000, 9);
            c.ground(0, 0, 9);
        }, c -> c.gold(0), 0);
        Check.answers("the clay, from most to none", c -> {
            c.ground(0, 20, 9);
            c.ground(0, 20, 0);
            c.miner(0, 0);
        }, c -> c.work(0, 0, PAN), 18);

        Book.says(2, "- `cell`: 0 to 39");
        Range.indexes(NEW, (c, cell) -> c.ground(cell, 1, 0), 0, 39);
        Check.answers("39 is told", c -> c.ground(39, 100, 0), c -> c.sample(39), 1);

        Book.says(2, "- `grains`: 0 to 100000");
        Range.arguments(NEW, (c, grains) -> c.ground(5, grains, 0), 0, 100000);
        Check.answers("the most", c -> c.ground(5, 100000, 0), c -> c.gold(0), 100000);

        Book.says(2, "- `clay`: 0 to 9");
        Range.arguments(NEW, (c, clay) -> c.ground(5, 7, clay), 0, 9);
        Check.answers("the least", pannedOn(5, 20, 0), c -> c.ofMiner(0, 0), 18);
        Check.answers("the most", pannedOn(5, 20, 9), c -> c.ofMiner(0, 0), 12);

        Book.says(2, "Returns its GRAINS before.");
        Check.answers("none", NEW, c -> c.ground(39, 9, 0), 0);
        Check.answers("the most", c -> c.ground(39, 100000, 0), c -> c.ground(39, 0, 0), 100000);
        Check.answers("none again", c -> {
            c.ground(39, 100000, 0);
            c.ground(39, 0, 0);
        }, c -> c.ground(39, 1, 0), 0);

        Book.says(2, "Throws `IndexOutOfBoundsException` if there is no such CELL");
        Range.badIndexes(NEW, (c, cell) -> c.ground(cell, 0, 0), -1, 40);

        Book.says(2, "Throws `IllegalArgumentException` if grains or clay is out of range");
        Check.badArgument("grains", NEW, c -> c.ground(0, 100001, 9));
        Check.badArgument("clay", NEW, c -> c.ground(0, 100000, 10));
        Check.badArgument("both", NEW, c -> c.ground(0, -1, -1));

        Book.says(2, "Throws `IllegalStateException` if the day is not 0, or somebody worked or salted");
        Check.badState("the day 1", c -> c.pass(1), c -> c.ground(0, 1, 1));
        Check.badState("the day 5000", c -> Check.toDay(c, 5000), c -> c.ground(0, 1, 1));
        Check.badState("worked", pannedOn(5, 20, 0), c -> c.ground(0, 1, 1));
        Check.badState("worked, though none was recovered", pannedOn(5, 1, 0),
                c -> c.ground(0, 1, 1));
        Check.badState("worked, though nothing was there", pannedOn(5, 0, 0),
                c -> c.ground(5, 1, 1));
        Check.badState("salted", Check.then(pannedOn(5, 20, 0), c -> c.salt(0, 7, 18)),
                c -> c.ground(7, 1, 1));
    }

    /** What is neither a day, nor work, nor salting leaves the ground open. */
    private static void groundIsOpen() {
        Check.Story busy = c -> {
            c.ground(0, 500, 0);
            c.miner(9, 50);
            c.miner(9, 50);
            c.peg(0, 0, 3);
            c.right(0, 100);
            c.brass(0, 10000);
            c.sell(0, 1);
            c.buy(0, 1);
            c.back(0, 1, 100, 9);
            c.trade(0, 1, 9);
            c.suit(0);
            c.rumour(0, 100);
            c.freight(1000, 5000);
            c.meet(10, 100, 2, 0);
            Check.thrownBy(c, x -> x.work(0, 0, MONITOR));
            Check.thrownBy(c, x -> x.salt(0, 0, 1));
            Check.thrownBy(c, x -> x.pass(0));
        };
        Check.answers("neither", busy, c -> c.ground(0, 1, 1), 500);
    }

    private static void flow() {
        Check.Story rights = c -> {
            c.miner(0, 0);
            for (int i = 0; i < 6; i++) {
                c.right(0, 200);
            }
        };
        Book.says(3, "Tells the FLOW.");
        Check.answers("it counts at once", Check.then(rights, c -> c.flow(1)), c -> c.gets(0), 1);

        Book.says(3, "- `inches`: 0 to 1000");
        Range.arguments(rights, (c, inches) -> c.flow(inches), 0, 1000);
        Check.answers("none", Check.then(rights, c -> c.flow(0)), c -> c.ofMiner(0, 5), 0);
        Check.answers("the most", Check.then(rights, c -> c.flow(1000)), c -> c.ofMiner(0, 5), 1000);
        Check.answers("the most is not enough", Check.then(rights, c -> c.flow(1000)),
                c -> c.gets(5), 0);

        Book.says(3, "Returns what it was.");
        Check.answers("at first", NEW, c -> c.flow(100), 100);
        Check.answers("none", c -> c.flow(0), c -> c.flow(5), 0);
        Check.answers("the most", c -> c.flow(1000), c -> c.flow(5), 1000);

        Book.says(3, "Throws `IllegalArgumentException` if inches is out of range");
        Range.badArguments(rights, (c, inches) -> c.flow(inches), -1, 1001);
    }

    private static void sample() {
        Book.says(10, "Takes a sample.");
        Check.changesNothing("it takes nothing away", c -> c.ground(0, 100, 0), c -> c.sample(0));

        Book.says(10, "- `cell`: 0 to 39");
        Range.indexes(NEW, (c, cell) -> c.sample(cell), 0, 39);

        Book.says(10, "Returns what it shows.");
        Check.answers("the last cell", c -> c.ground(39, 200, 0), c -> c.sample(39), 2);
        Check.answers("the first cell", c -> c.ground(0, 300, 0), c -> c.sample(0), 3);

        Book.says(10, "Throws `IndexOutOfBoundsException` if there is no such CELL");
        Range.badIndexes(c -> Check.toDay(c, 5000), (c, cell) -> c.sample(cell), -1, 40);

        Book.says(Book.TERMS, "A sample of a CELL shows its GRAINS divided by 100.");
        int[][] rows = {{0, 0}, {1, 0}, {99, 0}, {100, 1}, {199, 1}, {200, 2}, {99999, 999},
            {100000, 1000}};
        for (int[] row : rows) {
            Check.answers(row[0] + " grains", c -> c.ground(8, row[0], 9), c -> c.sample(8), row[1]);
        }
        Check.answers("more than can be told", c -> {
            c.ground(7, 2000, 0);
            c.ground(8, 100000, 0);
            c.miner(1, 0);
            c.peg(0, 7, 1);
            c.right(0, 40);
            c.work(0, 7, MONITOR);
        }, c -> c.sample(8), 1010);
    }

    private static void theCreek() {
        Book.says(Book.TERMS, "The creek has the CELLS 0 to 39");
        Range.indexes(NEW, (c, cell) -> c.holds(cell), 0, 39);
        Range.indexes(NEW, (c, cell) -> c.belief(cell), 0, 39);

        Book.says(Book.TERMS, "the CELL 0 uppermost");
        Check.Story second = pannedOn(1, 20, 0);
        Check.answers("nothing goes up", second, c -> c.work(1, 0, PAN), 0);
        Check.answers("it goes down", second, c -> c.work(1, 2, PAN), 1);

        Book.says(Book.TERMS, "each with GRAINS, 0 at first, and CLAY, 0 to 9, 0 at first");
        for (int cell = 0; cell < 40; cell++) {
            int asked = cell;
            Check.answers("grains of " + cell, NEW, c -> c.ground(asked, 1, 1), 0);
            if (cell > 0) {
                // 8 grains come down; with a clay of 1 only 6 of them would be recovered.
                Check.answers("clay of " + cell, pannedOn(cell - 1, 20, 9),
                        c -> c.work(1, asked, PAN), 7);
            }
        }
        Check.answers("clay of 0", Check.then(pannedOn(5, 20, 0), c -> c.salt(0, 0, 8)),
                c -> c.work(1, 0, PAN), 7);

        Book.says(Book.TERMS, "What goes down from the CELL 39 is in the sea.");
        Check.answers("from 39", pannedOn(39, 20, 0), c -> c.gold(1), 2);
        Check.answers("from 39, none is left", pannedOn(39, 20, 0), c -> c.gold(0), 0);
        Check.answers("from 39, twice", Check.then(pannedOn(39, 40, 0), c -> c.work(1, 39, PAN)),
                c -> c.gold(1), 4);
        Check.answers("from 38", pannedOn(38, 20, 0), c -> c.gold(1), 0);
        Check.answers("from 38, it is in 39", pannedOn(38, 20, 0), c -> c.work(1, 39, PAN), 1);
        Check.answers("from 39, not in 0", pannedOn(39, 20, 0), c -> c.work(1, 0, PAN), 0);

        Book.says(Book.TERMS, "The creek has a FLOW, 100 at first.");
        Check.answers("told", NEW, c -> c.flow(1), 100);
        Check.answers("got", c -> {
            c.miner(0, 0);
            c.right(0, 99);
            c.right(0, 2);
        }, c -> c.gets(1), 1);

        Book.says(Book.TERMS, "Gold out is gold that was in the ground less what is left.");
        Check.Story out = Check.then(pannedOn(39, 20, 0), c -> c.sell(0, 7));
        Check.answers("in the sea, of miners and of the bank", out,
                c -> c.gold(1) + c.gold(2) + c.gold(3), 20);
        Check.answers("all of it is out", out, c -> c.gold(4) - c.gold(0), 20);
    }

    private static void numbers() {
        Book.says(Book.TERMS, "Where something is divided, it is rounded towards 0");
        Check.answers("a sample", c -> c.ground(0, 199, 0), c -> c.sample(0), 1);
        Check.answers("what is recovered", pannedOn(0, 19, 0), c -> c.ofMiner(0, 0), 17);
        Check.answers("a share", c -> {
            c.ground(0, 19, 0);
            c.miner(0, 0);
            c.miner(0, 0);
            c.back(1, 0, 99, 0);
            c.work(0, 0, PAN);
        }, c -> c.ofMiner(1, 0), 16);
        Check.answers("the pay", Check.then(pannedOn(0, 20, 0), c -> c.rate(1)),
                c -> c.sell(0, 18), 1);
        Check.answers("the price", c -> {
            c.freight(41, 1);
            c.pass(1);
        }, c -> c.camp(3), 6);
        Check.answers("a belief", c -> {
            c.rumour(0, 19);
            c.pass(1);
        }, c -> c.belief(0), 17);

        Book.says(Book.TERMS, "products are made ahead of being divided");
        Check.answers("what is recovered of 99", pannedOn(0, 2, 0), c -> c.ofMiner(0, 0), 1);
        Check.answers("a share of less than a hundred", c -> {
            c.ground(0, 20, 0);
            c.miner(0, 0);
            c.miner(0, 0);
            c.back(1, 0, 50, 0);
            c.work(0, 0, PAN);
        }, c -> c.ofMiner(1, 0), 9);
        Check.answers("the pay for less than ten", Check.then(pannedOn(0, 20, 0), c -> c.rate(15)),
                c -> c.sell(0, 9), 13);
    }

    private static void manyCalls() {
        Book.says(Book.TERMS, "An object is used for at most 512 calls after it has been made");
        NuggetCamp flows = new NuggetCamp();
        for (int call = 1; call <= 511; call++) {
            flows.flow(call);
        }
        Check.due("the 512th call", flows.flow(0), 511);

        NuggetCamp brasses = Check.camp(c -> c.miner(0, 0));
        for (int call = 2; call <= 511; call++) {
            brasses.brass(0, 1);
        }
        Check.due("the 512th call", brasses.ofMiner(0, 1), 510);

        NuggetCamp days = Check.camp(c -> c.freight(1, 511));
        for (int call = 2; call <= 511; call++) {
            days.pass(1);
        }
        Check.due("the 512th call", days.pass(1) * 100 + days.camp(2), 51151);
    }

    private static void allPlacesTaken() {
        Book.says(Book.TERMS, "Miners are numbered from 0, at most 12");
        Check.Story full = c -> {
            for (int miner = 0; miner < 12; miner++) {
                c.miner(100, 100);
            }
            for (int claim = 0; claim < 30; claim++) {
                c.peg(11, claim + 10, 1);
            }
            for (int right = 0; right < 20; right++) {
                c.right(11, 5);
            }
            for (int freight = 0; freight < 20; freight++) {
                c.freight(1000, 1);
            }
        };
        Check.answers("the last claim", full, c -> c.holds(39), 29);
        Check.answers("the last right", full, c -> c.gets(19), 5);
        Check.answers("the last miner", full, c -> c.ofMiner(11, 5), 100);
        Check.answers("all freights", Check.then(full, c -> c.pass(1)), c -> c.camp(2), 20050);
        Check.answers("all claims lapse", Check.then(full, c -> c.pass(8)), c -> c.holds(39),
                NuggetCamp.NONE);
    }
}
