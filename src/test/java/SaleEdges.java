/** The boundary cases of sales and suits: promises 19 and 20, and the terms on them. */
final class SaleEdges {
    private static final int NONE = NuggetCamp.NONE;
    private static final int PAN = NuggetCamp.PAN;
    private static final Check.Story NEW = c -> { };

    /**
     * On day 40 the miners 0 to 2 have gold, and 0, with 6 coins, pegs the cells 10 to 12; the claim's
     * number is 0. Miner 3 is dead on day 45.
     */
    private static final Check.Story CAMP = c -> {
        c.ground(0, 20, 0);
        c.ground(1, 20, 0);
        c.ground(2, 20, 0);
        c.miner(1000, 6);
        c.miner(1000, 100000);
        c.miner(1000, 400);
        c.miner(40, 400);
        c.work(0, 0, PAN);
        c.work(1, 1, PAN);
        c.work(2, 2, PAN);
        c.meet(3, 100, 1, 0);
        c.pass(40);
        c.peg(0, 10, 3);
    };

    private SaleEdges() {
    }

    static void tell() {
        trade();
        tradeRefused();
        sales();
        suit();
        suitRefused();
        suitDays();
        saltings();
        saltedByWhom();
        whatDoesNotMatter();
        coinsBack();
    }

    private static Check.Story sold(int coins) {
        return Check.then(CAMP, c -> c.trade(0, 1, coins));
    }

    /** Salted by the seller on the day of the sale. */
    private static Check.Story cheated(int coins) {
        return Check.then(CAMP, c -> {
            c.salt(0, 10, 1);
            c.trade(0, 1, coins);
        });
    }

    private static void trade() {
        Book.says(19, "Sells a claim.");
        Check.answers("it is the buyer's", sold(0), c -> c.ofClaim(0, 0), 1);
        Check.answers("on the last day", c -> {
            Check.toDay(c, 5000);
            c.miner(0, 0);
            c.miner(0, 0);
            c.peg(0, 0, 1);
        }, c -> c.trade(0, 1, 0), 0);

        Book.says(19, "- `claim`: its number");
        Check.Story thirty = Check.then(CAMP, c -> {
            for (int i = 0; i < 29; i++) {
                c.peg(0, i < 10 ? i : i + 3, 1);
            }
        });
        Range.indexes(thirty, (c, claim) -> c.trade(claim, 1, 0), 0, 29);

        Book.says(19, "- `buyer`: a miner");
        Check.Story ofTheMidst = Check.then(CAMP, c -> c.trade(0, 2, 0));
        Range.indexes(ofTheMidst, (c, buyer) -> c.trade(0, buyer, 0), 0, 3);

        Book.says(19, "- `coins`: 0 to 100000");
        Range.arguments(CAMP, (c, coins) -> c.trade(0, 1, coins), 0, 100000);
        Check.answers("for nothing, the seller's", sold(0), c -> c.ofMiner(0, 3), 6);
        Check.answers("for nothing, the buyer's", sold(0), c -> c.ofMiner(1, 3), 100000);
        Check.answers("for the most, the seller's", sold(100000), c -> c.ofMiner(0, 3), 100006);
        Check.answers("for the most, the buyer's", sold(100000), c -> c.ofMiner(1, 3), 0);

        Book.says(19, "Returns the seller.");
        Check.answers("the first", CAMP, c -> c.trade(0, 3, 0), 0);
        Check.answers("the last", Check.then(CAMP, c -> c.trade(0, 3, 0)), c -> c.trade(0, 0, 0), 3);
    }

    private static void tradeRefused() {
        Book.says(19, "Throws `IndexOutOfBoundsException` if there is no such claim or miner");
        Range.badIndexes(CAMP, (c, claim) -> c.trade(claim, 1, 0), -1, 1, 30);
        Range.badIndexes(CAMP, (c, buyer) -> c.trade(0, buyer, 0), -1, 4, 12);
        Check.badIndex("no claim yet", c -> c.miner(0, 0), c -> c.trade(0, 0, 0));

        Book.says(19, "Throws `IllegalArgumentException` if coins is out of range, or the buyer is the"
                + " claim's miner");
        Range.badArguments(CAMP, (c, coins) -> c.trade(0, 1, coins), -1, 100001);
        Check.badArgument("its miner", CAMP, c -> c.trade(0, 0, 0));
        Check.badArgument("its miner by a sale", sold(0), c -> c.trade(0, 1, 0));
        Check.takes("its miner of once", sold(0), c -> c.trade(0, 0, 0));
        Check.badArgument("its miner, as it has lapsed", Check.then(CAMP, c -> c.pass(101)),
                c -> c.trade(0, 0, 0));

        Book.says(19, "Throws `IllegalStateException` if it has lapsed, the buyer is DEAD, or has less"
                + " COINS");
        Check.takes("its last day", Check.then(CAMP, c -> c.pass(100)), c -> c.trade(0, 1, 0));
        Check.badState("lapsed", Check.then(CAMP, c -> c.pass(101)), c -> c.trade(0, 1, 0));
        Check.takes("on the day before death", Check.then(CAMP, c -> c.pass(4)),
                c -> c.trade(0, 3, 0));
        Check.badState("dead", Check.then(CAMP, c -> c.pass(5)), c -> c.trade(0, 3, 0));
        Check.takes("just the coins", CAMP, c -> c.trade(0, 2, 400));
        Check.badState("a coin too few", CAMP, c -> c.trade(0, 2, 401));
        Check.badState("without coins", Check.then(sold(100000), c -> c.trade(0, 0, 0)),
                c -> c.trade(0, 1, 1));
        Check.takes("without coins, for none", Check.then(sold(100000), c -> c.trade(0, 0, 0)),
                c -> c.trade(0, 1, 0));
    }

    private static void sales() {
        Book.says(Book.TERMS, "A claim that is held can be sold for COINS");
        Check.takes("held", Check.then(CAMP, c -> c.pass(100)), c -> c.trade(0, 2, 400));
        Check.badState("not held", Check.then(CAMP, c -> c.pass(101)), c -> c.trade(0, 2, 400));

        Book.says(Book.TERMS, "it is the buyer's then, and counts as worked as it did");
        Check.Story late = Check.then(CAMP, c -> {
            c.pass(100);
            c.trade(0, 1, 0);
        });
        Check.answers("the day", late, c -> c.ofClaim(0, 4), 40);
        Check.answers("it lapses as it would have", Check.then(late, c -> c.pass(1)),
                c -> c.ofClaim(0, 3), 0);
        Check.answers("the buyer's work counts", Check.then(late, c -> {
            c.work(1, 12, PAN);
            c.pass(100);
        }), c -> c.ofClaim(0, 3) * 1000 + c.ofClaim(0, 4), 1140);
        Check.answers("the seller's work counted", Check.then(CAMP, c -> {
            c.pass(1);
            c.work(0, 10, PAN);
            c.trade(0, 1, 0);
        }), c -> c.ofClaim(0, 4), 41);
        Check.answers("its cells, days and number stay", late, c -> c.ofClaim(0, 1) * 10000
                + c.ofClaim(0, 2) * 1000 + c.ofClaim(0, 5) + c.holds(12), 103100);
    }

    private static void suit() {
        Book.says(20, "Lets the buyer of the latest sale of a claim bring a suit.");
        Check.answers("the coins are the buyer's", Check.then(cheated(300), c -> c.suit(0)),
                c -> c.ofMiner(1, 3), 100000);
        Check.answers("of the latest, not of the first", Check.then(cheated(300), c -> {
            c.trade(0, 2, 9);
        }), c -> c.suit(0), NONE);
        Check.answers("not of the first, but of the latest", Check.then(CAMP, c -> {
            c.salt(1, 10, 1);
            c.trade(0, 1, 300);
            c.trade(0, 2, 9);
        }), c -> c.suit(0), 9);

        Book.says(20, "- `claim`: its number");
        Check.Story both = Check.then(cheated(5), c -> {
            c.peg(0, 20, 1);
            c.trade(1, 2, 0);
        });
        Range.indexes(both, (c, claim) -> c.suit(claim), 0, 1);

        Book.says(20, "Returns the COINS that go back; NONE if it does not succeed.");
        Check.answers("none go back", cheated(0), c -> c.suit(0), 0);
        Check.answers("the most", cheated(100000), c -> c.suit(0), 100000);
        Check.answers("it does not succeed", sold(100000), c -> c.suit(0), -1);
    }

    private static void suitRefused() {
        Book.says(20, "Throws `IndexOutOfBoundsException` if there is no such claim");
        Range.badIndexes(cheated(5), (c, claim) -> c.suit(claim), -1, 1, 30);
        Check.badIndex("no claim yet", NEW, c -> c.suit(0));

        Book.says(20, "Throws `IllegalStateException` if it was not sold, a suit was brought about that"
                + " sale, or it was more than 30 days ago");
        Check.badState("not sold", CAMP, c -> c.suit(0));
        Check.badState("not sold on the first day", c -> {
            c.miner(0, 0);
            c.peg(0, 0, 1);
        }, c -> c.suit(0));
        Check.badState("a refused sale", Check.then(CAMP, c ->
                Check.thrownBy(c, x -> x.trade(0, 2, 401))), c -> c.suit(0));
        Check.badState("another one was sold", Check.then(cheated(5), c -> c.peg(0, 20, 1)),
                c -> c.suit(1));
        Check.badState("brought, with success", Check.then(cheated(5), c -> c.suit(0)),
                c -> c.suit(0));
        Check.badState("brought, without", Check.then(sold(5), c -> c.suit(0)), c -> c.suit(0));
        Check.badState("brought, for no coins", Check.then(cheated(0), c -> c.suit(0)),
                c -> c.suit(0));
        Check.badState("31 days ago", Check.then(cheated(5), c -> c.pass(31)), c -> c.suit(0));
        Check.badState("31 days ago, and it would not succeed", Check.then(sold(5), c -> c.pass(31)),
                c -> c.suit(0));
    }

    private static void suitDays() {
        Book.says(Book.TERMS, "A buyer can bring a suit about a claim by its latest sale, once, at most"
                + " 30 days behind it");
        Check.answers("on the day", cheated(5), c -> c.suit(0), 5);
        Check.answers("30 days behind it", Check.then(cheated(5), c -> c.pass(30)),
                c -> c.suit(0), 5);
        Check.badState("31 days behind it", Check.then(cheated(5), c -> c.pass(31)), c -> c.suit(0));
        Check.badState("31 days behind the latest, not the first", Check.then(sold(5), c -> {
            c.pass(1);
            c.trade(0, 2, 0);
            c.pass(31);
        }), c -> c.suit(0));
        Check.answers("30 days behind the latest, 31 behind the first", Check.then(cheated(5), c -> {
            c.pass(1);
            c.salt(1, 11, 1);
            c.trade(0, 2, 9);
            c.pass(30);
        }), c -> c.suit(0), 9);
        Check.answers("once for each sale", Check.then(cheated(5), c -> {
            c.suit(0);
            c.salt(1, 10, 1);
            c.trade(0, 2, 9);
        }), c -> c.suit(0), 9);
        Check.answers("a sale back", Check.then(sold(5), c -> {
            c.suit(0);
            c.salt(1, 10, 1);
            c.trade(0, 0, 4);
        }), c -> c.suit(0), 4);
    }

    private static Check.Story saltedAhead(int cell, int days) {
        return Check.then(CAMP, c -> {
            c.salt(0, cell, 1);
            Check.toDay(c, 40 + days);
            c.trade(0, 1, 5);
        });
    }

    private static void saltings() {
        Book.says(Book.TERMS, "it succeeds, if the seller salted one of its CELLS on the day of the"
                + " sale, ahead of it or behind it, or at most 30 days ahead of that day");
        int[][] cells = {{9, NONE}, {10, 5}, {11, 5}, {12, 5}, {13, NONE}};
        for (int[] row : cells) {
            Check.answers("ahead of it, cell " + row[0], saltedAhead(row[0], 0), c -> c.suit(0),
                    row[1]);
            Check.answers("behind it, cell " + row[0], Check.then(sold(5),
                    c -> c.salt(0, row[0], 1)), c -> c.suit(0), row[1]);
        }
        Check.answers("the day ahead", saltedAhead(11, 1), c -> c.suit(0), 5);
        Check.answers("30 days ahead", saltedAhead(11, 30), c -> c.suit(0), 5);
        Check.answers("31 days ahead", saltedAhead(11, 31), c -> c.suit(0), NONE);
        Check.answers("the day behind", Check.then(sold(5), c -> {
            c.pass(1);
            c.salt(0, 11, 1);
        }), c -> c.suit(0), NONE);
        Check.answers("31 days ahead, and the day behind", Check.then(saltedAhead(11, 31), c -> {
            c.pass(1);
            c.salt(0, 11, 1);
        }), c -> c.suit(0), NONE);
        Check.answers("30 days ahead, and the suit 30 days behind", Check.then(saltedAhead(11, 30),
                c -> c.pass(30)), c -> c.suit(0), 5);
        Check.answers("31 days ahead, another cell 30 days ahead", Check.then(CAMP, c -> {
            c.salt(0, 10, 1);
            c.pass(1);
            c.salt(0, 12, 1);
            c.pass(30);
            c.trade(0, 1, 5);
        }), c -> c.suit(0), 5);
        for (int cell : new int[] {0, 1, 38, 39}) {
            Check.answers("30 days ahead, before it was pegged, cell " + cell, c -> {
                c.ground(5, 20, 0);
                c.miner(1000, 0);
                c.miner(1000, 50);
                c.work(0, 5, PAN);
                c.salt(0, cell, 1);
                c.pass(30);
                c.peg(0, cell, 1);
                c.trade(0, 1, 5);
            }, c -> c.suit(0), 5);
        }
        Check.answers("behind the suit", Check.then(sold(5), c -> {
            c.suit(0);
            c.salt(0, 11, 1);
            c.trade(0, 2, 5);
        }), c -> c.suit(0), NONE);
        Check.answers("a refused salting", Check.then(sold(5), c ->
                Check.thrownBy(c, x -> x.salt(0, 11, 19))), c -> c.suit(0), NONE);
    }

    private static void saltedByWhom() {
        Check.answers("by the buyer, ahead of it", Check.then(CAMP, c -> {
            c.salt(1, 10, 1);
            c.trade(0, 1, 5);
        }), c -> c.suit(0), NONE);
        Check.answers("by the buyer, behind it", Check.then(sold(5), c -> c.salt(1, 10, 1)),
                c -> c.suit(0), NONE);
        Check.answers("by a third one", Check.then(CAMP, c -> {
            c.salt(2, 10, 1);
            c.trade(0, 1, 5);
            c.salt(2, 11, 1);
        }), c -> c.suit(0), NONE);
        Check.answers("by nobody, on the first days", c -> {
            c.miner(0, 0);
            c.miner(0, 0);
            c.peg(0, 0, 1);
            c.trade(0, 1, 0);
        }, c -> c.suit(0), NONE);
        Check.answers("by the seller of the sale before, behind the latest", Check.then(sold(5), c -> {
            c.trade(0, 2, 9);
            c.salt(0, 10, 1);
        }), c -> c.suit(0), NONE);
    }

    private static void whatDoesNotMatter() {
        Book.says(Book.TERMS, "one that does not succeed was brought all the same");
        Check.badState("brought", Check.then(sold(5), c -> c.suit(0)), c -> c.suit(0));
        Check.badState("salted behind the suit", Check.then(sold(5), c -> {
            c.suit(0);
            c.salt(0, 10, 1);
        }), c -> c.suit(0));

        Book.says(Book.TERMS, "whether the claim has lapsed, or one of both is DEAD, does not matter");
        Check.Story short7 = c -> {
            c.ground(0, 20, 0);
            c.miner(1000, 0);
            c.miner(1000, 50);
            c.miner(0, 50);
            c.work(0, 0, PAN);
            c.peg(0, 10, 1);
            c.salt(0, 10, 1);
        };
        Check.answers("lapsed", Check.then(short7, c -> {
            c.trade(0, 1, 50);
            c.pass(8);
        }), c -> c.ofClaim(0, 3) + c.suit(0), 50);
        Check.answers("lapsed, and another's claim is on its cells", Check.then(short7, c -> {
            c.trade(0, 1, 50);
            c.pass(8);
            c.peg(0, 10, 1);
        }), c -> c.suit(0), 50);
        Check.answers("a dead buyer", Check.then(short7, c -> {
            c.trade(0, 2, 50);
            c.pass(5);
        }), c -> c.suit(0) + c.ofMiner(2, 3) + c.ofMiner(2, 4), 100);
        Check.Story deadSeller = c -> {
            c.ground(0, 20, 0);
            c.miner(0, 0);
            c.miner(1000, 50);
            c.work(0, 0, PAN);
            c.peg(0, 10, 1);
            c.salt(0, 10, 1);
            c.trade(0, 1, 50);
            c.pass(30);
        };
        Check.answers("a dead seller", deadSeller, c -> c.suit(0) + c.ofMiner(0, 3), 50);
        Check.badState("but 31 days do", Check.then(deadSeller, c -> c.pass(1)), c -> c.suit(0));
    }

    private static void coinsBack() {
        Book.says(Book.TERMS, "Then the COINS of the sale go back, as many as the seller has, at most all"
                + " of them; the claim stays as it is.");
        int[][] spent = {{0, 300, 6}, {5, 300, 1}, {6, 300, 0}, {7, 299, 0}, {305, 1, 0},
            {306, 0, 0}};
        for (int[] row : spent) {
            Check.Story poorer = Check.then(cheated(300), c -> c.back(0, 2, 1, row[0]));
            Check.answers(row[0] + " are spent", poorer, c -> c.suit(0), row[1]);
            Check.answers(row[0] + " are spent, the seller's", Check.then(poorer, c -> c.suit(0)),
                    c -> c.ofMiner(0, 3), row[2]);
            Check.answers(row[0] + " are spent, the buyer's", Check.then(poorer, c -> c.suit(0)),
                    c -> c.ofMiner(1, 3), 99700 + row[1]);
        }
        Check.answers("none of those that do not succeed", Check.then(sold(300), c -> c.suit(0)),
                c -> c.ofMiner(0, 3), 306);
        int[] due = {1, 10, 3, 1, 40, 100};
        for (int what = 0; what < due.length; what++) {
            int asked = what;
            Check.answers("the claim's " + what, Check.then(cheated(300), c -> c.suit(0)),
                    c -> c.ofClaim(0, asked), due[what]);
        }
    }
}
