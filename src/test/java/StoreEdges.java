/** The boundary cases of the store: promises 15, 16 and 28, and the terms on food and freight. */
final class StoreEdges {
    private static final Check.Story NEW = c -> { };

    private StoreEdges() {
    }

    static void tell() {
        freight();
        freightRefused();
        buy();
        buyRefused();
        prices();
        arrivals();
        camp();
    }

    private static long freight(NuggetCamp camp, int food, int day) {
        camp.freight(food, day);
        return 0;
    }

    private static Check.Story freights(int many, int food, int day) {
        return c -> {
            for (int i = 0; i < many; i++) {
                c.freight(food, day);
            }
        };
    }

    private static Check.Story onDay(int day, Check.Story story) {
        return Check.then(story, c -> Check.toDay(c, day));
    }

    private static void freight() {
        Book.says(15, "Sends freight.");
        Check.answers("it is on its way", freights(1, 1, 1), c -> c.camp(4), 1);
        Check.answers("not in the store", freights(1, 1000, 1), c -> c.camp(2), 50);

        Book.says(15, "- `food`: 1 to 1000");
        Range.arguments(NEW, (c, food) -> freight(c, food, 1), 1, 1000);
        Check.answers("the least", onDay(1, freights(1, 1, 1)), c -> c.camp(2), 51);
        Check.answers("the most", onDay(1, freights(1, 1000, 1)), c -> c.camp(2), 1050);

        Book.says(15, "- `day`: a later day, to 5000");
        Range.arguments(NEW, (c, day) -> freight(c, 1, day), 1, 5000);
        Range.arguments(onDay(7, NEW), (c, day) -> freight(c, 1, day), 8, 5000);
        Range.arguments(onDay(4999, NEW), (c, day) -> freight(c, 1, day), 5000, 5000);
        Range.badArguments(onDay(5000, NEW), (c, day) -> freight(c, 1, day), 4999, 5000, 5001);
    }

    private static void freightRefused() {
        Book.says(15, "Throws `IllegalArgumentException` if food or day is out of range");
        Range.badArguments(NEW, (c, food) -> freight(c, food, 5000), -1, 0, 1001);
        Range.badArguments(NEW, (c, day) -> freight(c, 1000, day), -1, 0, 5001);
        Check.badArgument("both", NEW, c -> freight(c, 0, 0));

        Book.says(15, "Throws `IllegalStateException` if 20 are on their way");
        Check.takes("the twentieth", freights(19, 1, 9), c -> freight(c, 1, 9));
        Check.badState("one more", freights(20, 1, 9), c -> freight(c, 1, 9));
        Check.badState("one more, for another day", freights(20, 1, 9), c -> freight(c, 1, 1));
        Check.badState("the day before they arrive", onDay(8, freights(20, 1, 9)),
                c -> freight(c, 1, 5000));
        Check.takes("as they have arrived", onDay(9, freights(20, 1, 9)),
                c -> freight(c, 1, 5000));
        Check.Story oneComes = Check.then(freights(1, 1, 1), freights(19, 1, 9));
        Check.takes("as one has arrived", onDay(1, oneComes), c -> freight(c, 1, 9));
        Check.badState("and just one", Check.then(onDay(1, oneComes), c -> c.freight(1, 9)),
                c -> freight(c, 1, 9));
    }

    /** Two miners who live, with 750 coins, and one who is dead on day 5. */
    private static final Check.Story BUYERS = c -> {
        c.miner(1000, 750);
        c.miner(1000, 14);
        c.miner(0, 750);
    };

    private static void buy() {
        Book.says(16, "Buys FOOD.");
        Check.answers("the store has less", Check.then(BUYERS, c -> c.buy(0, 1)), c -> c.camp(2), 49);
        Check.answers("the miner has more", Check.then(BUYERS, c -> c.buy(0, 1)),
                c -> c.ofMiner(0, 2), 1001);

        Book.says(16, "- `miner`: a miner");
        Check.Story twelve = c -> {
            for (int i = 0; i < 12; i++) {
                c.miner(0, 15);
            }
        };
        Range.indexes(twelve, (c, miner) -> c.buy(miner, 1), 0, 11);

        Book.says(16, "- `food`: 1 to 1000");
        Check.Story full = onDay(1, c -> {
            c.miner(0, 100000);
            c.freight(1000, 1);
        });
        Range.arguments(full, (c, food) -> c.buy(0, food), 1, 1000);

        Book.says(16, "Returns the COINS that it costs.");
        Check.answers("the least", full, c -> c.buy(0, 1), 5);
        Check.answers("the most at the least price", full, c -> c.buy(0, 1000), 5000);
        Check.answers("all of the store at first", BUYERS, c -> c.buy(0, 50), 750);
        Check.answers("the last one, at the highest price", Check.then(full, c -> {
            c.buy(0, 1000);
            c.buy(0, 49);
        }), c -> c.buy(0, 1), 24);
    }

    private static void buyRefused() {
        Book.says(16, "Throws `IndexOutOfBoundsException` if there is no such miner");
        Range.badIndexes(BUYERS, (c, miner) -> c.buy(miner, 1), -1, 3);
        Check.badIndex("no miner yet", NEW, c -> c.buy(0, 1));

        Book.says(16, "Throws `IllegalArgumentException` if food is out of range");
        Range.badArguments(BUYERS, (c, food) -> c.buy(0, food), -1, 0, 1001);

        Book.says(16, "Throws `IllegalStateException` if the miner is DEAD, the store has less, or the"
                + " miner has not the COINS");
        Check.takes("on the day before death", onDay(4, BUYERS), c -> c.buy(2, 1));
        Check.badState("dead", onDay(5, BUYERS), c -> c.buy(2, 1));
        Check.Story rich = c -> c.miner(0, 100000);
        Check.takes("all of the store", rich, c -> c.buy(0, 50));
        Check.badState("one more", rich, c -> c.buy(0, 51));
        Check.badState("the most", rich, c -> c.buy(0, 1000));
        Check.badState("one of none", Check.then(rich, c -> c.buy(0, 50)), c -> c.buy(0, 1));
        Check.takes("just the coins", BUYERS, c -> c.buy(0, 50));
        Check.badState("a coin too few", BUYERS, c -> c.buy(1, 1));
        Check.takes("just the coins for one", c -> c.miner(0, 15), c -> c.buy(0, 1));
        Check.badState("a coin too few for all", c -> c.miner(0, 749), c -> c.buy(0, 50));
        Check.badState("no coins", c -> c.miner(0, 0), c -> c.buy(0, 1));
    }

    private static void prices() {
        Book.says(Book.TERMS, "The store has FOOD, 50 at first, and a price for 1 FOOD: 5, and a fifth"
                + " of the number by which its FOOD is below 100, if it is.");
        Check.answers("food at first", NEW, c -> c.camp(2), 50);
        Check.answers("price at first", NEW, c -> c.camp(3), 15);
        int[][] rows = {{0, 25}, {1, 24}, {4, 24}, {5, 24}, {6, 23}, {49, 15}, {50, 15}, {51, 14},
            {90, 7}, {94, 6}, {95, 6}, {96, 5}, {99, 5}, {100, 5}, {101, 5}, {105, 5}, {1050, 5}};
        for (int[] row : rows) {
            Check.answers("the price with " + row[0], onDay(1, c -> {
                c.miner(0, 100000);
                if (row[0] < 50) {
                    c.buy(0, 50 - row[0]);
                } else if (row[0] > 50) {
                    c.freight(row[0] - 50, 1);
                }
            }), c -> c.camp(3), row[1]);
        }

        Book.says(Book.TERMS, "What is bought is paid at the price ahead of it; the COINS are gone.");
        Check.answers("all at one price", BUYERS, c -> c.buy(0, 10), 150);
        Check.answers("then at another one", Check.then(BUYERS, c -> c.buy(0, 10)),
                c -> c.buy(0, 1), 17);
        Check.answers("coins of all", Check.then(BUYERS, c -> c.buy(0, 50)),
                c -> c.ofMiner(0, 3) + c.ofMiner(1, 3) + c.ofMiner(2, 3), 764);
        Check.answers("across the hundred", onDay(1, c -> {
            c.miner(0, 100000);
            c.freight(51, 1);
        }), c -> c.buy(0, 101), 505);
    }

    private static void arrivals() {
        Book.says(Book.TERMS, "Freight of FOOD arrives on a day.");
        Check.answers("not the day before", onDay(8, freights(1, 7, 9)), c -> c.camp(2), 50);
        Check.answers("on that day", onDay(9, freights(1, 7, 9)), c -> c.camp(2), 57);
        Check.answers("once", onDay(10, freights(1, 7, 9)), c -> c.camp(2), 57);
        Check.answers("twenty on one day", onDay(9, freights(20, 1000, 9)), c -> c.camp(2), 20050);
        Check.answers("in the midst of passing days", Check.then(freights(1, 7, 9),
                c -> c.pass(200)), c -> c.camp(2), 57);
        Check.answers("on the last day", onDay(5000, freights(20, 1000, 5000)), c -> c.camp(2), 20050);
        Check.answers("twenty on twenty days", c -> {
            for (int day = 1; day <= 20; day++) {
                c.freight(day, day);
            }
            c.pass(19);
        }, c -> c.camp(2) * 100 + c.camp(4), 24001);
    }

    private static void camp() {
        Book.says(28, "Tells something of the camp.");
        int[] atFirst = {3, 7, 50, 15, 0, 0};
        for (int what = 0; what < atFirst.length; what++) {
            int asked = what;
            Check.answers("what " + what, NEW, c -> c.camp(asked), atFirst[what]);
        }

        Book.says(28, "- `what`: 0 the size of the code, 1 its days of work, 2 the FOOD of the store, 3"
                + " its price, 4 the freights on their way, 5 the miners that are not DEAD");
        Range.arguments(NEW, (c, what) -> c.camp(what), 0, 5);
        Check.Story busy = onDay(1, c -> {
            BUYERS.tell(c);
            c.meet(10, 100, 2, 1);
            c.freight(45, 1);
            c.freight(1, 2);
        });
        int[] then = {10, 100, 95, 6, 1, 3};
        for (int what = 0; what < then.length; what++) {
            int asked = what;
            Check.answers("what " + what, busy, c -> c.camp(asked), then[what]);
        }

        Book.says(28, "Returns the number.");
        Check.answers("most freights", freights(20, 1, 1), c -> c.camp(4), 20);
        Check.answers("all have arrived", onDay(1, freights(20, 1, 1)), c -> c.camp(4), 0);
        Check.Story starving = c -> {
            for (int i = 0; i < 12; i++) {
                c.miner(i / 11, 0);
            }
        };
        Check.answers("most miners", starving, c -> c.camp(5), 12);
        Check.answers("one is left", onDay(5, starving), c -> c.camp(5), 1);
        Check.answers("all are dead", onDay(6, starving), c -> c.camp(5), 0);
        Check.answers("no food", Check.then(BUYERS, c -> c.buy(0, 50)), c -> c.camp(2), 0);

        Book.says(28, "Throws `IllegalArgumentException` if what is out of range");
        Range.badArguments(NEW, (c, what) -> c.camp(what), -1, 6);
    }
}
