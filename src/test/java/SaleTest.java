/** Promises 19 and 20: trade and suit. */
final class SaleTest {
    /** Miner 0 has 1000 gold, 6 coins and the claim of the cells 10 to 12; it is day 40. */
    private static final Check.Story CAMP = c -> {
        c.ground(0, 2000, 0);
        c.miner(300, 6);
        c.miner(300, 500);
        c.miner(300, 400);
        c.meet(3, 100, 1, 0);
        c.peg(0, 0, 1);
        c.right(0, 40);
        c.work(0, 0, NuggetCamp.MONITOR);
        c.pass(40);
        c.peg(0, 10, 3);
    };

    private static final Check.Story SOLD = c -> {
        CAMP.tell(c);
        c.trade(1, 1, 300);
    };

    private static void trade() {
        NuggetCamp camp = Check.camp(CAMP);
        camp.pass(2);
        Check.due("19: the seller", camp.trade(1, 1, 300), 0);
        Check.due("19: the seller's coins", camp.ofMiner(0, 3), 306);
        Check.due("19: the buyer's coins", camp.ofMiner(1, 3), 200);
        Check.due("19: the claim is the buyer's", camp.ofClaim(1, 0), 1);
        Check.due("19: it counts as worked as it did", camp.ofClaim(1, 4), 40);
        Check.due("19: it keeps its days", camp.ofClaim(1, 5), 100);
        Check.due("19: it is held", camp.holds(11), 1);
        Check.due("19: the next seller", camp.trade(1, 2, 400), 1);
        Check.due("19: all coins", camp.ofMiner(2, 3), 0);
        Check.due("19: for nothing", camp.trade(1, 0, 0), 2);
        Check.answers("19: the buyer may work it", Check.then(SOLD, c -> c.pass(1)),
                c -> c.work(1, 10, NuggetCamp.PAN) + c.ofClaim(1, 4), 41);
        Check.badState("19: the seller may not", SOLD, c -> c.work(0, 10, NuggetCamp.PAN));
        Check.answers("19: it lives by its buyer", c -> {
            c.miner(0, 0);
            c.miner(9, 0);
            c.peg(0, 0, 1);
            c.trade(0, 1, 0);
            c.pass(5);
        }, c -> c.ofClaim(0, 3), 1);
        tradeRefused();
    }

    private static void tradeRefused() {
        Check.Story lapsed = Check.then(CAMP, c -> c.pass(101));
        Check.Story dead = Check.then(CAMP, c -> {
            c.miner(0, 900);
            c.pass(5);
        });
        Check.badIndex("19: claim -1", CAMP, c -> c.trade(-1, 1, 0));
        Check.badIndex("19: claim 2", CAMP, c -> c.trade(2, 1, 0));
        Check.badIndex("19: buyer -1", CAMP, c -> c.trade(1, -1, 0));
        Check.badIndex("19: buyer 3", CAMP, c -> c.trade(1, 3, 0));
        Check.badIndex("19: buyer ahead of coins", CAMP, c -> c.trade(1, 3, -1));
        Check.badArgument("19: coins -1", CAMP, c -> c.trade(1, 1, -1));
        Check.badArgument("19: coins 100001", CAMP, c -> c.trade(1, 1, 100001));
        Check.badArgument("19: its own miner", CAMP, c -> c.trade(1, 0, 0));
        Check.badArgument("19: its own miner ahead of state", lapsed, c -> c.trade(1, 0, 0));
        Check.badArgument("19: its buyer is its miner", SOLD, c -> c.trade(1, 1, 0));
        Check.badState("19: lapsed", lapsed, c -> c.trade(1, 1, 0));
        Check.badState("19: a dead buyer", dead, c -> c.trade(1, 3, 0));
        Check.badState("19: less coins", CAMP, c -> c.trade(1, 1, 501));
        Check.badState("20: a refused sale is no sale", Check.then(CAMP, c ->
                Check.thrownBy(c, x -> x.trade(1, 1, 501))), c -> c.suit(1));
    }

    private static Check.Story saltedDaysAhead(int cell, int days) {
        return Check.then(CAMP, c -> {
            c.salt(0, cell, 5);
            if (days > 0) {
                c.pass(days);
            }
            c.trade(1, 1, 300);
        });
    }

    private static void saltings() {
        int none = NuggetCamp.NONE;
        Check.answers("20: not salted", SOLD, c -> c.suit(1), none);
        Check.answers("20: ahead of it", saltedDaysAhead(10, 0), c -> c.suit(1), 300);
        Check.answers("20: the lowest cell", saltedDaysAhead(12, 0), c -> c.suit(1), 300);
        Check.answers("20: the cell above", saltedDaysAhead(9, 0), c -> c.suit(1), none);
        Check.answers("20: the cell below", saltedDaysAhead(13, 0), c -> c.suit(1), none);
        Check.answers("20: 30 days ahead", saltedDaysAhead(11, 30), c -> c.suit(1), 300);
        Check.answers("20: 31 days ahead", saltedDaysAhead(11, 31), c -> c.suit(1), none);
        Check.answers("20: behind it on the day", Check.then(SOLD, c -> c.salt(0, 11, 5)),
                c -> c.suit(1), 300);
        Check.answers("20: on the day behind it", Check.then(SOLD, c -> {
            c.pass(1);
            c.salt(0, 11, 5);
        }), c -> c.suit(1), none);
        Check.answers("20: behind it on the day, beside it", Check.then(SOLD, c -> c.salt(0, 13, 5)),
                c -> c.suit(1), none);
        Check.answers("20: ahead of it, and long behind it", Check.then(saltedDaysAhead(11, 20), c -> {
            c.pass(10);
            c.salt(0, 11, 5);
        }), c -> c.suit(1), 300);
        Check.answers("20: twice ahead of it", Check.then(CAMP, c -> {
            c.salt(0, 11, 5);
            c.pass(31);
            c.salt(0, 11, 5);
            c.trade(1, 1, 300);
        }), c -> c.suit(1), 300);
    }

    private static void saltedByOthers() {
        Check.Story giver = c -> {
            c.ground(0, 100, 0);
            c.ground(1, 100, 0);
            c.miner(300, 6);
            c.miner(300, 500);
            c.miner(300, 400);
            c.work(1, 0, NuggetCamp.PAN);
            c.work(2, 1, NuggetCamp.PAN);
            c.peg(0, 10, 3);
        };
        Check.answers("20: salted by the buyer", Check.then(giver, c -> {
            c.salt(1, 10, 5);
            c.trade(0, 1, 100);
            c.salt(1, 11, 5);
        }), c -> c.suit(0), NuggetCamp.NONE);
        Check.answers("20: salted by a third one", Check.then(giver, c -> {
            c.salt(2, 10, 5);
            c.trade(0, 1, 100);
            c.salt(2, 11, 5);
        }), c -> c.suit(0), NuggetCamp.NONE);
        Check.answers("20: salted by the seller of the latest sale", Check.then(giver, c -> {
            c.salt(1, 10, 5);
            c.trade(0, 1, 100);
            c.trade(0, 2, 70);
        }), c -> c.suit(0), 70);
        Check.answers("20: salted by the seller of an earlier sale", Check.then(giver, c -> {
            c.salt(1, 10, 5);
            c.trade(0, 1, 100);
            c.trade(0, 2, 70);
            c.trade(0, 1, 60);
        }), c -> c.suit(0), NuggetCamp.NONE);
        Check.answers("20: salted before it was a claim", c -> {
            c.ground(0, 100, 0);
            c.miner(300, 0);
            c.miner(300, 50);
            c.work(0, 0, NuggetCamp.PAN);
            c.salt(0, 5, 1);
            c.pass(1);
            c.peg(0, 5, 1);
            c.trade(0, 1, 50);
        }, c -> c.suit(0), 50);
    }

    /** The first claim and the first cell, within the first days. */
    private static void firstOnes() {
        Check.Story sold = c -> {
            c.ground(1, 50, 0);
            c.miner(300, 0);
            c.miner(300, 50);
            c.work(0, 1, NuggetCamp.PAN);
            c.peg(0, 0, 2);
            c.trade(0, 1, 50);
        };
        Check.answers("20: a cell that nobody salted", sold, c -> c.suit(0), NuggetCamp.NONE);
        Check.answers("20: the first cell, behind it", Check.then(sold, c -> c.salt(0, 0, 1)),
                c -> c.suit(0), 50);
        Check.answers("20: the next cell, behind it", Check.then(sold, c -> c.salt(0, 1, 1)),
                c -> c.suit(0), 50);
    }

    private static void coinsBack() {
        NuggetCamp camp = Check.camp(saltedDaysAhead(10, 0));
        Check.due("20: all coins of the sale", camp.suit(1), 300);
        Check.due("20: the seller's", camp.ofMiner(0, 3), 6);
        Check.due("20: the buyer's", camp.ofMiner(1, 3), 500);
        Check.due("20: the claim stays", camp.ofClaim(1, 0), 1);
        Check.due("20: held", camp.ofClaim(1, 3), 1);
        Check.answers("20: as many as the seller has", Check.then(saltedDaysAhead(10, 0), c -> {
            c.back(0, 2, 1, 290);
        }), c -> c.suit(1) * 1000 + c.ofMiner(1, 3), 16216);
        Check.answers("20: the seller has none", Check.then(saltedDaysAhead(10, 0), c -> {
            c.back(0, 2, 1, 306);
        }), c -> c.suit(1), 0);
        Check.answers("20: sold for nothing", Check.then(CAMP, c -> {
            c.salt(0, 10, 5);
            c.trade(1, 1, 0);
        }), c -> c.suit(1), 0);
        Check.answers("20: both dead, and lapsed", c -> {
            c.ground(0, 20, 0);
            c.miner(0, 0);
            c.miner(0, 50);
            c.peg(0, 0, 1);
            c.work(0, 0, NuggetCamp.PAN);
            c.salt(0, 0, 1);
            c.trade(0, 1, 50);
            c.pass(30);
        }, c -> c.camp(5) == 0 && c.ofClaim(0, 3) == 0 ? c.suit(0) + c.ofMiner(1, 3) : -9, 100);
    }

    private static void suitRefused() {
        Check.Story salted = saltedDaysAhead(10, 0);
        Check.badIndex("20: claim -1", salted, c -> c.suit(-1));
        Check.badIndex("20: claim 2", salted, c -> c.suit(2));
        Check.badState("20: not sold", CAMP, c -> c.suit(1));
        Check.answers("20: at most 30 days", Check.then(salted, c -> c.pass(30)), c -> c.suit(1), 300);
        Check.badState("20: 31 days", Check.then(salted, c -> c.pass(31)), c -> c.suit(1));
        Check.badState("20: twice", Check.then(salted, c -> c.suit(1)), c -> c.suit(1));
        Check.badState("20: twice without success", Check.then(SOLD, c -> c.suit(1)), c -> c.suit(1));
        Check.badState("20: brought, then salted", Check.then(SOLD, c -> {
            c.suit(1);
            c.salt(0, 10, 5);
        }), c -> c.suit(1));
        Check.answers("20: a new sale, a new suit", Check.then(SOLD, c -> {
            c.suit(1);
            c.pass(60);
            c.trade(1, 2, 9);
        }), c -> c.suit(1), NuggetCamp.NONE);
        Check.badState("20: a sale of another claim", Check.then(salted, c -> c.suit(1)),
                c -> c.suit(0));
    }

    public static void main(String[] args) {
        trade();
        saltings();
        saltedByOthers();
        firstOnes();
        coinsBack();
        suitRefused();
        Check.end();
    }
}
