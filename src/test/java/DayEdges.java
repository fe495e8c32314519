/** The boundary cases of miners and days: promises 4, 5 and 22, and the terms on them. */
final class DayEdges {
    private static final int PAN = NuggetCamp.PAN;
    private static final Check.Story NEW = c -> { };

    /** Miner 0 starves and is dead on day 5; the others live. All that the dead may have, 0 has. */
    private static final Check.Story CAMP = c -> {
        c.ground(0, 1000, 0);
        c.miner(0, 500);
        c.miner(1000, 500);
        c.miner(1000, 500);
        c.work(0, 0, PAN);
        c.brass(0, 3);
        c.sell(0, 1);
        c.peg(0, 3, 2);
        c.peg(1, 20, 1);
        c.right(0, 30);
        c.back(1, 0, 40, 7);
        c.back(0, 1, 25, 8);
    };
    private static final Check.Story DYING = Check.then(CAMP, c -> c.pass(4));
    private static final Check.Story DEAD = Check.then(CAMP, c -> c.pass(5));

    private DayEdges() {
    }

    static void tell() {
        miner();
        pass();
        day();
        miners();
        theDead();
        meals();
        fading();
        lapsing();
        orderOfTheDay();
    }

    private static Check.Story daysAfter(Check.Story story, int days) {
        return Check.then(story, c -> c.pass(days));
    }

    private static Check.Story someMiners(int many) {
        return c -> {
            for (int i = 0; i < many; i++) {
                c.miner(0, 0);
            }
        };
    }

    private static void miner() {
        Book.says(4, "A miner comes.");
        Check.answers("none yet", NEW, c -> c.camp(5), 0);
        Check.answers("one", someMiners(1), c -> c.camp(5), 1);
        Check.answers("on the last day", c -> {
            Check.toDay(c, 5000);
            c.miner(0, 0);
        }, c -> c.ofMiner(0, 4), 10);

        Book.says(4, "- `food`: 0 to 1000");
        Range.arguments(NEW, (c, food) -> c.miner(food, 100000), 0, 1000);
        Check.answers("none", c -> c.miner(0, 9), c -> c.ofMiner(0, 2), 0);
        Check.answers("the most", c -> c.miner(1000, 9), c -> c.ofMiner(0, 2), 1000);

        Book.says(4, "- `coins`: 0 to 100000");
        Range.arguments(NEW, (c, coins) -> c.miner(1000, coins), 0, 100000);
        Check.answers("none", c -> c.miner(9, 0), c -> c.ofMiner(0, 3), 0);
        Check.answers("the most", c -> c.miner(9, 100000), c -> c.ofMiner(0, 3), 100000);

        Book.says(4, "Returns the number.");
        Check.answers("the first", NEW, c -> c.miner(0, 0), 0);
        Check.answers("the last", someMiners(11), c -> c.miner(0, 0), 11);
        Check.answers("behind a refused one", c -> Check.thrownBy(c, x -> x.miner(-1, 0)),
                c -> c.miner(0, 0), 0);

        Book.says(4, "Throws `IllegalArgumentException` if food or coins is out of range");
        Check.badArgument("food", NEW, c -> c.miner(1001, 0));
        Check.badArgument("coins", NEW, c -> c.miner(0, 100001));
        Check.badArgument("both", NEW, c -> c.miner(-1, -1));

        Book.says(4, "Throws `IllegalStateException` if there are 12");
        Check.takes("the twelfth", someMiners(11), c -> c.miner(0, 0));
        Check.badState("the thirteenth", someMiners(12), c -> c.miner(0, 0));
        Check.badState("twelve dead ones", daysAfter(someMiners(12), 5), c -> c.miner(0, 0));
    }

    private static void pass() {
        Check.Story last = c -> Check.toDay(c, 5000);
        Book.says(5, "Lets days pass.");
        Check.answers("200 at once do what 200 do", daysAfter(CAMP, 200),
                c -> c.ofMiner(1, 2), 800);

        Book.says(5, "- `days`: 1 to 200");
        Range.arguments(NEW, (c, days) -> c.pass(days), 1, 200);
        Range.badArguments(last, (c, days) -> c.pass(days), 0, 201);

        Book.says(5, "Returns the day then.");
        Check.answers("the first", NEW, c -> c.pass(1), 1);
        Check.answers("the most at once", NEW, c -> c.pass(200), 200);
        Check.answers("the last", c -> Check.toDay(c, 4999), c -> c.pass(1), 5000);

        Book.says(5, "Throws `IllegalArgumentException` if days is out of range");
        Range.badArguments(CAMP, (c, days) -> c.pass(days), -1, 0, 201);

        Book.says(5, "Throws `IllegalStateException` if it would be above 5000");
        Check.answers("from 4800", c -> Check.toDay(c, 4800), c -> c.pass(200), 5000);
        Check.badState("from 4801", c -> Check.toDay(c, 4801), c -> c.pass(200));
        Check.answers("just to 5000", c -> Check.toDay(c, 4801), c -> c.pass(199), 5000);
        Check.badState("from 4999", c -> Check.toDay(c, 4999), c -> c.pass(2));
        Check.badState("from 5000", last, c -> c.pass(1));
        Check.badState("far beyond", last, c -> c.pass(200));
    }

    private static void day() {
        Book.says(22, "Returns the day.");
        Check.answers("the first", NEW, c -> c.day(), 0);
        Check.answers("the last", c -> Check.toDay(c, 5000), c -> c.day(), 5000);
        Check.answers("behind a refused pass", c -> {
            Check.toDay(c, 4999);
            Check.thrownBy(c, x -> x.pass(2));
        }, c -> c.day(), 4999);

        Book.says(Book.TERMS, "Days are counted from 0.");
        Check.answers("before any", NEW, c -> c.day(), 0);
        Check.answers("behind one", daysAfter(NEW, 1), c -> c.day(), 1);
    }

    private static void miners() {
        Book.says(Book.TERMS, "Miners are numbered from 0, at most 12");
        for (int i = 0; i < 12; i++) {
            Check.answers("the number", someMiners(i), c -> c.miner(0, 0), i);
        }
        Check.badState("one more", someMiners(12), c -> c.miner(0, 0));

        Book.says(Book.TERMS, "a miner has GOLD and BRASS, in grains, 0 at first, FOOD, COINS,"
                + " and HEALTH, 10 at first");
        int[] due = {0, 0, 1000, 100000, 10, 0, 0, 0};
        for (int what = 0; what < due.length; what++) {
            int asked = what;
            Check.answers("ofMiner " + what, c -> c.miner(1000, 100000),
                    c -> c.ofMiner(0, asked), due[what]);
        }

        Book.says(Book.TERMS, "a miner whose HEALTH is 0 is DEAD for good");
        Check.answers("a health of 2", DYING, c -> c.ofMiner(0, 4), 2);
        Check.answers("is not dead", DYING, c -> c.camp(5), 3);
        Check.answers("a health of 0", DEAD, c -> c.ofMiner(0, 4), 0);
        Check.answers("is dead", DEAD, c -> c.camp(5), 2);
        Check.answers("a health of 1 is not dead", oddHealth(4), c -> c.camp(5), 1);
        Check.answers("for good", Check.then(DEAD, c -> {
            c.freight(1000, 6);
            c.pass(200);
        }), c -> c.ofMiner(0, 4), 0);
        Check.badState("with food in the store", Check.then(DEAD, c -> {
            c.freight(1000, 6);
            c.pass(1);
        }), c -> c.buy(0, 1));
    }

    /** A miner who fell to 8 and had food for one day: 9, and then 2 less on each day. */
    private static Check.Story oddHealth(int daysWithout) {
        return c -> {
            c.miner(0, 100);
            c.pass(1);
            c.buy(0, 1);
            c.pass(1 + daysWithout);
        };
    }

    private static long back(NuggetCamp camp, int backer, int miner) {
        camp.back(backer, miner, 1, 0);
        return 0;
    }

    private static void dyingOnly(String what, Check.Question call) {
        Check.takes(what + ", on the day before", DYING, call);
        Check.badState(what, DEAD, call);
    }

    private static void theDead() {
        Book.says(Book.TERMS, "A DEAD one does nothing");
        dyingOnly("pegs", c -> c.peg(0, 30, 1));
        dyingOnly("takes a right", c -> c.right(0, 1));
        dyingOnly("works", c -> c.work(0, 0, PAN));
        dyingOnly("salts", c -> c.salt(0, 0, 1));
        dyingOnly("puts brass", c -> c.brass(0, 1));
        dyingOnly("sells dust", c -> c.sell(0, 1));
        dyingOnly("buys food", c -> c.buy(0, 1));
        dyingOnly("backs", c -> back(c, 0, 2));
        dyingOnly("is backed", c -> back(c, 2, 0));
        dyingOnly("buys a claim", c -> c.trade(1, 0, 0));
        Check.takes("votes, on the day before", DYING, c -> c.meet(1, 1, 3, 0) ? 1 : 0);
        Check.badArgument("votes", DEAD, c -> c.meet(1, 1, 3, 0) ? 1 : 0);

        Book.says(Book.TERMS, "and holds no claim");
        Check.answers("on the day before", DYING, c -> c.holds(3), 0);
        Check.answers("its cells", DEAD, c -> c.holds(3), NuggetCamp.NONE);
        Check.answers("the claim", DEAD, c -> c.ofClaim(0, 3), 0);
        Check.answers("its cells are free", DEAD, c -> c.peg(1, 3, 2), 2);

        Book.says(Book.TERMS, "what a DEAD one has stays");
        int[] due = {18, 3, 0, 499, 0, 0, 1, 40};
        for (int what = 0; what < due.length; what++) {
            int asked = what;
            Check.answers("ofMiner " + what, DEAD, c -> c.ofMiner(0, asked), due[what]);
            Check.answers("ofMiner " + what + ", long behind it", daysAfter(DEAD, 200),
                    c -> c.ofMiner(0, asked), due[what]);
        }
        Check.answers("the gold is counted", DEAD, c -> c.gold(2), 18);
        Check.answers("the claim is still told as the miner's", DEAD, c -> c.ofClaim(0, 0), 0);
    }

    private static void meals() {
        Book.says(Book.TERMS, "each miner, by rising numbers, who is not DEAD, eats 1 FOOD,"
                + " and HEALTH is 1 more, at most 10");
        Check.Story fed = c -> c.miner(2, 100);
        Check.answers("food", daysAfter(fed, 1), c -> c.ofMiner(0, 2), 1);
        Check.answers("the last food is eaten", daysAfter(fed, 2), c -> c.ofMiner(0, 2), 0);
        Check.answers("and is a meal", daysAfter(fed, 2), c -> c.ofMiner(0, 4), 10);
        Check.answers("10 stays 10", daysAfter(fed, 1), c -> c.ofMiner(0, 4), 10);
        Check.answers("8 is 9 then", oddHealth(0), c -> c.ofMiner(0, 4), 9);
        Check.answers("9 is 10 then", fedAgain(2), c -> c.ofMiner(0, 4), 10);
        Check.answers("and 10 stays", fedAgain(3), c -> c.ofMiner(0, 4), 10);
        Check.answers("the last miner too", Check.then(someMiners(11), c -> {
            c.miner(1000, 0);
            c.pass(5);
        }), c -> c.ofMiner(11, 2) * 100 + c.ofMiner(11, 4), 99510);

        Book.says(Book.TERMS, "or, without FOOD, HEALTH is 2 less, at least 0");
        Check.answers("on the first day without", daysAfter(fed, 3), c -> c.ofMiner(0, 4), 8);
        Check.answers("food is not below 0", daysAfter(fed, 3), c -> c.ofMiner(0, 2), 0);
        Check.answers("2 is 0 then", daysAfter(someMiners(1), 5), c -> c.ofMiner(0, 4), 0);
        Check.answers("3 is 1 then", oddHealth(4), c -> c.ofMiner(0, 4), 1);
        Check.answers("1 is 0 then", oddHealth(5), c -> c.ofMiner(0, 4), 0);
        Check.answers("0 stays 0", oddHealth(6), c -> c.ofMiner(0, 4), 0);

        Book.says(Book.TERMS, "freight of that day arrives");
        Check.Story freight = c -> {
            c.freight(1000, 3);
            c.freight(1, 4);
        };
        Check.answers("the day before", daysAfter(freight, 2), c -> c.camp(2), 50);
        Check.answers("that day", daysAfter(freight, 3), c -> c.camp(2), 1050);
        Check.answers("the day behind it", daysAfter(freight, 4), c -> c.camp(2), 1051);
        Check.answers("on the last day", c -> {
            c.freight(7, 5000);
            Check.toDay(c, 5000);
        }, c -> c.camp(2), 57);
        Check.answers("the day before the last", c -> {
            c.freight(7, 5000);
            Check.toDay(c, 4999);
        }, c -> c.camp(2), 50);
    }

    private static Check.Story fedAgain(int days) {
        return c -> {
            c.miner(0, 100);
            c.pass(1);
            c.buy(0, 3);
            c.pass(days);
        };
    }

    private static void fading() {
        Book.says(Book.TERMS, "the belief of each rumour is less by a tenth of it and 1, together,"
                + " at least 0");
        int[][] rows = {{0, 0}, {1, 0}, {2, 1}, {9, 8}, {10, 8}, {11, 9}, {19, 17}, {20, 17},
            {99, 89}, {100, 89}};
        for (int[] row : rows) {
            Check.answers("of " + row[0], daysAfter(c -> c.rumour(0, row[0]), 1),
                    c -> c.belief(0), row[1]);
            Check.answers("of " + row[0] + " of the last cell",
                    daysAfter(c -> c.rumour(39, row[0]), 1), c -> c.belief(39), row[1]);
        }
        Check.answers("never below 0", daysAfter(c -> c.rumour(0, 100), 200), c -> c.belief(0), 0);
    }

    private static Check.Story peggedUnder(int daysOfWork) {
        return c -> {
            c.miner(1000, 0);
            c.meet(1, daysOfWork, 1, 0);
            c.peg(0, 0, 1);
        };
    }

    private static void lapsing() {
        Book.says(Book.TERMS, "each claim that is held lapses, if its miner is DEAD by now,"
                + " or it was worked more days ago than its days of work");
        for (int days : new int[] {1, 7, 100}) {
            Check.answers(days + " days ago", daysAfter(peggedUnder(days), days),
                    c -> c.ofClaim(0, 3), 1);
            Check.answers("more than " + days + " days ago", daysAfter(peggedUnder(days), days + 1),
                    c -> c.ofClaim(0, 3), 0);
        }
        Check.answers("dead by now", DEAD, c -> c.ofClaim(0, 3), 0);
        Check.answers("not yet dead", DYING, c -> c.ofClaim(0, 3), 1);
        Check.answers("of a living one", DEAD, c -> c.ofClaim(1, 3), 1);
        Check.answers("the buyer dies", daysAfter(Check.then(CAMP, c -> c.trade(1, 0, 0)), 5),
                c -> c.ofClaim(1, 3), 0);
        Check.answers("the seller dies", daysAfter(Check.then(CAMP, c -> c.trade(0, 1, 0)), 5),
                c -> c.ofClaim(0, 3), 1);
    }

    private static void orderOfTheDay() {
        Book.says(Book.TERMS, "in this order: the day is 1 more");
        Check.answers("freight of the new day, not of the old one", c -> {
            c.pass(1);
            c.freight(5, 2);
            c.pass(1);
        }, c -> c.camp(2), 55);
        Check.answers("a meal ahead of the freight", daysAfter(c -> {
            c.miner(0, 100);
            c.freight(1000, 1);
        }, 1), c -> c.ofMiner(0, 4), 8);
        Check.answers("death ahead of the lapsing of that day", DEAD, c -> c.ofClaim(0, 3), 0);
        Check.answers("the claim is judged on the new day", daysAfter(peggedUnder(1), 1),
                c -> c.ofClaim(0, 3), 1);
    }
}
