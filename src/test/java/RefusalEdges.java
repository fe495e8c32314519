/** What the document says of all refusals and questions: which exception comes, and what stays. */
final class RefusalEdges {
    private static final int PAN = NuggetCamp.PAN;

    /**
     * Miner 0 worked today and has 18 gold and 2 brass; miner 2 is dead. Claim 0 is held and sold,
     * claim 1 has 6 cells, claim 2 is one cell of miner 1's. There is a right and a freight.
     */
    private static final Check.Story CAMP = c -> {
        c.ground(0, 100, 0);
        c.miner(1000, 100);
        c.miner(1000, 100);
        c.miner(0, 100);
        c.meet(6, 100, 1, 0);
        c.pass(5);
        c.peg(0, 0, 2);
        c.peg(0, 10, 6);
        c.peg(1, 39, 1);
        c.right(0, 60);
        c.freight(100, 9);
        c.rumour(5, 50);
        c.back(0, 1, 60, 10);
        c.work(0, 0, PAN);
        c.brass(0, 2);
        c.salt(0, 1, 2);
        c.trade(2, 0, 5);
        c.suit(2);
        c.trade(0, 1, 5);
    };

    /** All places are taken, and it is the last day. */
    private static final Check.Story FULL = c -> {
        c.ground(0, 20, 0);
        c.miner(0, 0);
        c.work(0, 0, PAN);
        for (int i = 1; i < 12; i++) {
            c.miner(0, 0);
        }
        for (int i = 0; i < 30; i++) {
            c.peg(0, i, 1);
        }
        for (int i = 0; i < 20; i++) {
            c.right(0, 200);
        }
        Check.toDay(c, 5000);
    };

    private RefusalEdges() {
    }

    static void tell() {
        indexes();
        arguments();
        states();
        namedFirst();
        namedFirstOfThree();
        changesNothing();
        questions();
    }

    private static long back(NuggetCamp camp, int backer, int miner, int percent, int coins) {
        camp.back(backer, miner, percent, coins);
        return 0;
    }

    private static long freight(NuggetCamp camp, int food, int day) {
        camp.freight(food, day);
        return 0;
    }

    private static void indexes() {
        Book.says(Book.TERMS, "IndexOutOfBoundsException: there is no such CELL, miner, claim or right.");
        Check.badIndex("cell", CAMP, c -> c.holds(40));
        Check.badIndex("miner", CAMP, c -> c.ofMiner(3, 0));
        Check.badIndex("claim", CAMP, c -> c.ofClaim(3, 0));
        Check.badIndex("right", CAMP, c -> c.gets(1));
    }

    private static void arguments() {
        Book.says(Book.TERMS, "IllegalArgumentException: another argument is out of its range.");
        Check.badArgument("too small", CAMP, c -> c.rate(0));
        Check.badArgument("too large", CAMP, c -> c.rate(101));
        Check.badArgument("no such what", CAMP, c -> c.gold(5));
        Check.badArgument("no such method", CAMP, c -> c.plan(0, 4));
    }

    private static void states() {
        Book.says(Book.TERMS, "IllegalStateException: as the method tells.");
        Check.badState("ground", CAMP, c -> c.ground(0, 0, 0));
        Check.badState("miner", FULL, c -> c.miner(0, 0));
        Check.badState("pass", FULL, c -> c.pass(1));
        Check.badState("peg", FULL, c -> c.peg(0, 39, 1));
        Check.badState("right", FULL, c -> c.right(0, 1));
        Check.badState("work", CAMP, c -> c.work(0, 0, PAN));
        Check.badState("salt", CAMP, c -> c.salt(0, 0, 17));
        Check.badState("brass", CAMP, c -> c.brass(2, 1));
        Check.badState("sell", CAMP, c -> c.sell(0, 19));
        Check.badState("freight", c -> {
            for (int i = 0; i < 20; i++) {
                c.freight(1, 9);
            }
        }, c -> freight(c, 1, 9));
        Check.badState("buy", CAMP, c -> c.buy(0, 51));
        Check.badState("back", CAMP, c -> back(c, 0, 1, 1, 0));
        Check.badState("end", CAMP, c -> c.end(1, 0));
        Check.badState("trade", CAMP, c -> c.trade(0, 2, 0));
        Check.badState("suit", CAMP, c -> c.suit(2));
        Check.badState("plan", CAMP, c -> c.plan(1, PAN));
        Check.badState("planCell", CAMP, c -> c.planCell(1, PAN, 0));
    }

    private static void namedFirst() {
        Book.says(Book.TERMS, "If several apply, the one that is named first in the throws clause is"
                + " thrown.");
        Check.badIndex("ground: cell, state", CAMP, c -> c.ground(40, 0, 0));
        Check.badIndex("ground: cell, clay", c -> { }, c -> c.ground(-1, 0, 10));
        Check.badArgument("ground: grains, state", CAMP, c -> c.ground(0, -1, 0));
        Check.badArgument("ground: clay, state", CAMP, c -> c.ground(0, 0, 10));
        Check.badArgument("miner: food, state", FULL, c -> c.miner(-1, 0));
        Check.badArgument("miner: coins, state", FULL, c -> c.miner(0, 100001));
        Check.badArgument("pass: days, state", FULL, c -> c.pass(201));
        Check.badIndex("peg: miner, state", FULL, c -> c.peg(12, 0, 1));
        Check.badIndex("peg: beyond 39, state", CAMP, c -> c.peg(2, 38, 3));
        Check.badIndex("peg: beyond 39, many", CAMP, c -> c.peg(0, 30, 11));
        Check.badIndex("peg: miner, many", CAMP, c -> c.peg(-1, 0, 0));
        Check.badArgument("peg: many, state", CAMP, c -> c.peg(2, 0, 11));
        Check.badIndex("right: miner, inches", CAMP, c -> c.right(3, 0));
        Check.badIndex("right: miner, state", FULL, c -> c.right(12, 1));
        Check.badArgument("right: inches, state", FULL, c -> c.right(0, 201));
        Check.badIndex("work: miner, method", CAMP, c -> c.work(3, 0, 4));
        Check.badIndex("work: cell, state", CAMP, c -> c.work(2, 40, PAN));
        Check.badArgument("work: method, state", CAMP, c -> c.work(0, 0, -1));
        Check.badIndex("salt: cell, grains", CAMP, c -> c.salt(0, 40, 0));
        Check.badIndex("salt: miner, grains", CAMP, c -> c.salt(3, 0, 10001));
        Check.badIndex("salt: cell, state", CAMP, c -> c.salt(2, -1, 1));
        Check.badArgument("salt: grains, state", CAMP, c -> c.salt(2, 0, 10001));
        Check.badIndex("brass: miner, grains", CAMP, c -> c.brass(3, 0));
        Check.badArgument("brass: grains, state", CAMP, c -> c.brass(2, 0));
        Check.badIndex("sell: miner, dust", CAMP, c -> c.sell(3, 0));
        Check.badArgument("sell: dust, state", CAMP, c -> c.sell(2, 1000001));
        Check.badIndex("buy: miner, food", CAMP, c -> c.buy(3, 0));
        Check.badArgument("buy: food, state", CAMP, c -> c.buy(2, 1001));
        Check.badArgument("freight: food, state", c -> {
            for (int i = 0; i < 20; i++) {
                c.freight(1, 9);
            }
        }, c -> freight(c, 1001, 9));
        Check.badArgument("freight: day, state", c -> {
            for (int i = 0; i < 20; i++) {
                c.freight(1, 9);
            }
        }, c -> freight(c, 1, 0));
    }

    private static void namedFirstOfThree() {
        Check.badIndex("back: backer, percent", CAMP, c -> back(c, 3, 1, 0, 0));
        Check.badIndex("back: miner, coins", CAMP, c -> back(c, 0, 3, 1, -1));
        Check.badIndex("back: both the same, who are not there", CAMP, c -> back(c, 3, 3, 1, 0));
        Check.badIndex("back: miner, a dead backer", CAMP, c -> back(c, 2, 3, 1, 0));
        Check.badArgument("back: percent, state", CAMP, c -> back(c, 0, 1, 101, 0));
        Check.badArgument("back: coins, state", CAMP, c -> back(c, 0, 1, 1, 100001));
        Check.badArgument("back: the same, dead", CAMP, c -> back(c, 2, 2, 1, 0));
        Check.badIndex("end: no such backer, no backing", CAMP, c -> c.end(3, 0));
        Check.badIndex("end: no such miner, no backing", CAMP, c -> c.end(0, 3));
        Check.badIndex("trade: claim, coins", CAMP, c -> c.trade(3, 1, -1));
        Check.badIndex("trade: buyer, coins", CAMP, c -> c.trade(0, 3, -1));
        Check.badIndex("trade: claim, a dead buyer", CAMP, c -> c.trade(-1, 2, 0));
        Check.badArgument("trade: coins, a dead buyer", CAMP, c -> c.trade(0, 2, 100001));
        Check.badArgument("trade: its miner, less coins", CAMP, c -> c.trade(0, 1, 100000));
        Check.badIndex("rumour: cell, belief", CAMP, c -> c.rumour(40, 101));
        Check.badIndex("ofClaim: claim, what", CAMP, c -> c.ofClaim(3, 6));
        Check.badIndex("ofMiner: miner, what", CAMP, c -> c.ofMiner(3, 8));
        Check.badIndex("plan: claim, method", CAMP, c -> c.plan(3, 4));
        Check.badArgument("plan: method, state", CAMP, c -> c.plan(1, 4));
        Check.badIndex("planCell: claim, method", CAMP, c -> c.planCell(3, 4, 0));
        Check.badIndex("planCell: place, method", CAMP, c -> c.planCell(0, 4, -1));
        Check.badIndex("planCell: place, state", CAMP, c -> c.planCell(1, PAN, -1));
        Check.badArgument("planCell: method, state", CAMP, c -> c.planCell(1, 4, 0));
        Check.badIndex("ground: all three", CAMP, c -> c.ground(40, -1, 10));
        Check.badIndex("peg: all three", CAMP, c -> c.peg(2, 39, 11));
        Check.badIndex("right: all three", FULL, c -> c.right(12, 0));
        Check.badIndex("work: all three", CAMP, c -> c.work(2, 40, 4));
        Check.badIndex("salt: all three", CAMP, c -> c.salt(2, 40, 0));
        Check.badIndex("back: all three", CAMP, c -> back(c, 2, 3, 0, -1));
        Check.badIndex("trade: all three", CAMP, c -> c.trade(0, 3, 100001));
        Check.badIndex("planCell: all three", CAMP, c -> c.planCell(1, 4, -1));
    }

    /** Each of these would change much if it were not refused, and each is refused late. */
    private static void changesNothing() {
        Book.says(Book.TERMS, "A call that throws an exception changes nothing.");
        Check.badArgument("flow", CAMP, c -> c.flow(1001));
        Check.badArgument("rate", CAMP, c -> c.rate(101));
        Check.badArgument("meet", CAMP, c -> c.meet(1, 1, 2, 1) ? 1 : 0);
        Check.badState("pass, to the last day", c -> {
            c.miner(1000, 0);
            Check.toDay(c, 4801);
            c.miner(1000, 0);
            c.freight(5, 4900);
        }, c -> c.pass(200));
        Check.badState("peg, only its last cell is held", CAMP, c -> c.peg(1, 5, 6));
        Check.badState("work, again", CAMP, c -> c.work(0, 39, PAN));
        Check.badState("work, another's cell", CAMP, c -> c.work(1, 39, PAN));
        Check.badState("work, without water", CAMP, c -> c.work(1, 0, NuggetCamp.ROCKER));
        Check.badState("salt, more than there is", CAMP, c -> c.salt(0, 10, 10000));
        Check.badState("sell, more than there is", CAMP, c -> c.sell(0, 19));
        Check.badState("buy, more than there is", CAMP, c -> c.buy(0, 51));
        Check.badState("back, above 100", Check.then(CAMP, c -> c.miner(0, 90)),
                c -> back(c, 3, 1, 41, 90));
        Check.badState("trade, less coins", CAMP, c -> c.trade(0, 0, 91));
        Check.badState("suit, brought", CAMP, c -> c.suit(2));
        Check.badArgument("rumour", CAMP, c -> c.rumour(5, 101));
    }

    private static void questions() {
        Book.says(Book.TERMS, "Questions change nothing.");
        for (Check.Story story : new Check.Story[] {c -> { }, CAMP, FULL}) {
            Check.changesNothing("day", story, c -> c.day());
            for (int number = -1; number <= 40; number++) {
                int asked = number;
                Check.changesNothing("questions of " + number, story, c -> {
                    Check.thrownBy(c, x -> x.sample(asked));
                    Check.thrownBy(c, x -> x.holds(asked));
                    Check.thrownBy(c, x -> x.belief(asked));
                    Check.thrownBy(c, x -> x.gets(asked));
                    Check.thrownBy(c, x -> x.gold(asked));
                    Check.thrownBy(c, x -> x.camp(asked));
                    Check.thrownBy(c, x -> x.plan(asked, NuggetCamp.MONITOR));
                    Check.thrownBy(c, x -> x.planCell(asked, NuggetCamp.MONITOR, 0));
                    for (int what = -1; what <= 8; what++) {
                        int row = what;
                        Check.thrownBy(c, x -> x.ofMiner(asked, row));
                        Check.thrownBy(c, x -> x.ofClaim(asked, row));
                    }
                    return 0;
                });
            }
        }
    }
}
