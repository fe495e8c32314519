/** The boundary cases of backers: promises 17 and 18, and the terms on them. */
final class BackingEdges {
    private static final Check.Story NEW = c -> { };

    /** Miner 2 is dead on day 5. */
    private static final Check.Story FOUR = c -> {
        c.miner(1000, 100000);
        c.miner(1000, 100);
        c.miner(0, 100);
        c.miner(1000, 0);
    };

    private BackingEdges() {
    }

    static void tell() {
        back();
        backRefused();
        terms();
        end();
    }

    private static long back(NuggetCamp camp, int backer, int miner, int percent, int coins) {
        camp.back(backer, miner, percent, coins);
        return 0;
    }

    private static Check.Story backed(int backer, int miner, int percent, int coins) {
        return Check.then(FOUR, c -> c.back(backer, miner, percent, coins));
    }

    private static void back() {
        Book.says(17, "Backs a miner.");
        Check.answers("the percent", backed(0, 1, 100, 0), c -> c.ofMiner(1, 7), 100);
        Check.answers("the coins", backed(1, 0, 1, 100), c -> c.ofMiner(0, 3), 100100);

        Book.says(17, "- `backer`: a miner");
        Range.indexes(FOUR, (c, backer) -> back(c, backer, backer == 0 ? 1 : 0, 1, 0), 0, 3);

        Book.says(17, "- `miner`: another one");
        Range.indexes(FOUR, (c, miner) -> back(c, miner == 0 ? 1 : 0, miner, 1, 0), 0, 3);
        for (int miner = 0; miner < 4; miner++) {
            int same = miner;
            Check.badArgument("the same, " + miner, FOUR, c -> back(c, same, same, 1, 0));
        }

        Book.says(17, "- `percent`: 1 to 100");
        Range.arguments(FOUR, (c, percent) -> back(c, 0, 1, percent, 0), 1, 100);
        Check.answers("the least", backed(0, 1, 1, 0), c -> c.ofMiner(1, 7), 1);

        Book.says(17, "- `coins`: 0 to 100000");
        Range.arguments(FOUR, (c, coins) -> back(c, 0, 1, 1, coins), 0, 100000);
        Check.answers("none", backed(3, 1, 1, 0), c -> c.ofMiner(1, 3), 100);
        Check.answers("the most", backed(0, 1, 1, 100000), c -> c.ofMiner(1, 3), 100100);
        Check.answers("the most are gone", backed(0, 1, 1, 100000), c -> c.ofMiner(0, 3), 0);
    }

    private static void backRefused() {
        Book.says(17, "Throws `IndexOutOfBoundsException` if there is no such miner, of either");
        Range.badIndexes(FOUR, (c, backer) -> back(c, backer, 0, 1, 0), -1, 4, 12);
        Range.badIndexes(FOUR, (c, miner) -> back(c, 0, miner, 1, 0), -1, 4, 12);
        Check.badIndex("of both", FOUR, c -> back(c, 4, -1, 1, 0));
        Check.badIndex("of both, the same", FOUR, c -> back(c, 4, 4, 1, 0));
        Check.badIndex("no miner yet", NEW, c -> back(c, 0, 1, 1, 0));

        Book.says(17, "Throws `IllegalArgumentException` if percent or coins is out of range, or both"
                + " are the same");
        Range.badArguments(FOUR, (c, percent) -> back(c, 0, 1, percent, 0), -1, 0, 101);
        Range.badArguments(FOUR, (c, coins) -> back(c, 0, 1, 1, coins), -1, 100001);
        Check.badArgument("both", FOUR, c -> back(c, 0, 1, 0, -1));
        Check.badArgument("the same", FOUR, c -> back(c, 0, 0, 1, 0));

        Book.says(17, "Throws `IllegalStateException` if one of both is DEAD, the backer backs the"
                + " miner, has less COINS, or the miner would have more than 100 percent backed");
        Check.takes("a backer, on the day before death", Check.then(FOUR, c -> c.pass(4)),
                c -> back(c, 2, 0, 1, 0));
        Check.badState("a dead backer", Check.then(FOUR, c -> c.pass(5)), c -> back(c, 2, 0, 1, 0));
        Check.badState("a dead miner", Check.then(FOUR, c -> c.pass(5)), c -> back(c, 0, 2, 1, 0));
        Check.badState("backed by the same", backed(0, 1, 1, 0), c -> back(c, 0, 1, 1, 0));
        Check.takes("the other way round", backed(0, 1, 100, 0), c -> back(c, 1, 0, 100, 0));
        Check.takes("just the coins", FOUR, c -> back(c, 1, 0, 1, 100));
        Check.badState("a coin too few", FOUR, c -> back(c, 1, 0, 1, 101));
        Check.badState("without coins", FOUR, c -> back(c, 3, 0, 1, 1));
        Check.takes("without coins, for none", FOUR, c -> back(c, 3, 0, 1, 0));
        Check.takes("just 100 percent", backed(0, 1, 99, 0), c -> back(c, 2, 1, 1, 0));
        Check.badState("101 percent", backed(0, 1, 99, 0), c -> back(c, 2, 1, 2, 0));
        Check.badState("all is backed", backed(0, 1, 100, 0), c -> back(c, 2, 1, 1, 0));
        Check.badState("nearly all of two", backed(0, 1, 100, 0), c -> back(c, 2, 1, 100, 0));
    }

    private static Check.Story elevenBackers(int percent) {
        return c -> {
            for (int i = 0; i < 12; i++) {
                c.miner(0, 0);
            }
            for (int i = 1; i < 12; i++) {
                c.back(i, 0, percent, 0);
            }
        };
    }

    private static void terms() {
        Book.says(Book.TERMS, "A backer pays COINS to a miner for a percent of what that one recovers"
                + " from then on, till the backing is ended by the backer");
        Check.Story worked = c -> {
            c.ground(0, 60, 0);
            FOUR.tell(c);
            c.work(1, 0, NuggetCamp.PAN);
            c.back(0, 1, 50, 0);
        };
        Check.answers("nothing of what was ahead of it", worked, c -> c.ofMiner(0, 0), 0);
        Check.Story nextDay = Check.then(worked, c -> {
            c.pass(1);
            c.work(1, 0, NuggetCamp.PAN);
        });
        Check.answers("from then on", nextDay, c -> c.ofMiner(0, 0), 9);
        Check.answers("till it is ended", Check.then(nextDay, c -> {
            c.end(0, 1);
            c.pass(1);
            c.work(1, 0, NuggetCamp.PAN);
        }), c -> c.ofMiner(0, 0), 9);

        Book.says(Book.TERMS, "a miner has at most 100 percent backed, each backer backs a miner once at"
                + " a time");
        Check.answers("eleven backers", elevenBackers(9), c -> c.ofMiner(0, 7), 99);
        Check.takes("by two, just 100", backed(0, 1, 50, 0), c -> back(c, 2, 1, 50, 0));
        Check.badState("by two, 101", backed(0, 1, 50, 0), c -> back(c, 2, 1, 51, 0));
        Check.badState("twice", backed(0, 1, 50, 0), c -> back(c, 0, 1, 50, 0));
        Check.takes("two miners by one", backed(0, 1, 100, 0), c -> back(c, 0, 2, 100, 0));
        Check.takes("again, as it is ended", Check.then(backed(0, 1, 100, 0), c -> c.end(0, 1)),
                c -> back(c, 0, 1, 100, 0));
        Check.badState("a dead backer's percent counts", Check.then(backed(2, 1, 100, 0),
                c -> c.pass(5)), c -> back(c, 0, 1, 1, 0));
    }

    private static void end() {
        Check.Story some = backed(0, 1, 100, 7);
        Book.says(18, "Ends a backing.");
        Check.answers("no percent is left", Check.then(some, c -> c.end(0, 1)),
                c -> c.ofMiner(1, 7), 0);
        Check.answers("no coins go back", Check.then(some, c -> c.end(0, 1)),
                c -> c.ofMiner(1, 3), 107);

        Book.says(18, "- `backer`: a miner");
        Range.allowed(elevenBackers(9), (c, backer) -> c.end(backer, 0), 1, 11);
        Range.badIndexes(elevenBackers(9), (c, backer) -> c.end(backer, 0), Integer.MIN_VALUE, -1, 12,
                Integer.MAX_VALUE);

        Book.says(18, "- `miner`: a miner");
        Check.Story all = c -> {
            for (int i = 0; i < 12; i++) {
                c.miner(0, 0);
            }
            c.back(1, 0, 1, 0);
            c.back(1, 11, 1, 0);
        };
        Range.indexes(all, (c, miner) -> c.end(1, miner), 0, 11);

        Book.says(18, "Returns the percent that it was.");
        Check.answers("the least", backed(0, 1, 1, 0), c -> c.end(0, 1), 1);
        Check.answers("the most", some, c -> c.end(0, 1), 100);
        Check.answers("of one of two", Check.then(backed(0, 1, 99, 0), c -> c.back(3, 1, 1, 0)),
                c -> c.end(3, 1) * 100 + c.ofMiner(1, 7), 199);

        Book.says(18, "Throws `IndexOutOfBoundsException` if there is no such miner, of either");
        Range.badIndexes(some, (c, backer) -> c.end(backer, 1), -1, 4, 11, 12);
        Range.badIndexes(some, (c, miner) -> c.end(0, miner), -1, 4, 11, 12);
        Check.badIndex("no miner yet", NEW, c -> c.end(0, 0));

        Book.says(18, "Throws `IllegalStateException` if the backer does not back the miner");
        Check.badState("nobody backs anybody", FOUR, c -> c.end(0, 1));
        Check.badState("the other way round", some, c -> c.end(1, 0));
        Check.badState("another backer", some, c -> c.end(3, 1));
        Check.badState("another miner", some, c -> c.end(0, 3));
        Check.badState("both the same", some, c -> c.end(1, 1));
        Check.badState("ended", Check.then(some, c -> c.end(0, 1)), c -> c.end(0, 1));
        Check.takes("the miner is dead", Check.then(backed(0, 2, 9, 0), c -> c.pass(5)),
                c -> c.end(0, 2));
    }
}
