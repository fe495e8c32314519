/** Promises 17 and 18, and what backers get by promise 9: back, end, work. */
final class BackingTest {
    private static final int PAN = NuggetCamp.PAN;

    /** Miner 3 is short of food: dead on day 5. */
    private static final Check.Story FOUR = c -> {
        c.ground(0, 1000, 1);
        c.miner(100, 50);
        c.miner(100, 60);
        c.miner(100, 70);
        c.miner(0, 80);
    };

    private static final Check.Story DEAD = c -> {
        FOUR.tell(c);
        c.pass(5);
    };

    private static long back(NuggetCamp camp, int backer, int miner, int percent, int coins) {
        camp.back(backer, miner, percent, coins);
        return 0;
    }

    private static void checkGold(String what, NuggetCamp camp, int... due) {
        for (int i = 0; i < due.length; i++) {
            Check.due(what + ", miner " + i, camp.ofMiner(i, 0), due[i]);
        }
    }

    private static void shares() {
        NuggetCamp camp = Check.camp(FOUR);
        camp.back(1, 0, 25, 60);
        camp.back(2, 0, 14, 0);
        camp.back(3, 0, 6, 1);
        camp.back(0, 1, 100, 0);
        Check.due("17: the coins are the miner's", camp.ofMiner(0, 3), 111);
        Check.due("17: the backer's are gone", camp.ofMiner(1, 3), 0);
        Check.due("25: percent backed", camp.ofMiner(0, 7), 45);
        Check.due("25: percent of all", camp.ofMiner(1, 7), 100);
        Check.due("25: percent of none", camp.ofMiner(2, 7), 0);
        Check.due("9: all that is recovered is told", camp.work(0, 0, PAN), 17);
        checkGold("9: shares are rounded down", camp, 17 - 4 - 2 - 1, 4, 2, 1);
        camp.work(1, 0, PAN);
        checkGold("9: all of it", camp, 27, 4, 2, 1);
        camp.pass(5);
        camp.work(0, 0, PAN);
        checkGold("9: a dead backer too", camp, 37, 8, 4, 2);
        Check.due("18: end", camp.end(2, 0), 14);
        Check.due("18: percent then", camp.ofMiner(0, 7), 31);
        camp.pass(1);
        camp.work(0, 0, PAN);
        checkGold("18: no share any more", camp, 49, 12, 4, 3);
        Check.due("18: a dead one's", camp.end(3, 0), 6);
        Check.due("18: the other way round stays", camp.end(0, 1), 100);
        Check.due("17: no coins go back", camp.ofMiner(0, 3), 111);
        camp.back(2, 0, 75, 0);
        Check.due("17: again, to 100", camp.ofMiner(0, 7), 100);
    }

    private static void largeShares() {
        NuggetCamp camp = new NuggetCamp();
        camp.ground(0, 2000, 0);
        camp.miner(100, 0);
        camp.miner(100, 0);
        camp.miner(100, 0);
        camp.peg(0, 0, 1);
        camp.right(0, 40);
        camp.back(1, 0, 30, 0);
        camp.back(2, 0, 1, 0);
        camp.work(0, 0, NuggetCamp.MONITOR);
        checkGold("9: shares of a thousand", camp, 690, 300, 10);
        Check.due("18: one percent", camp.end(2, 0), 1);
    }

    private static void backRefused() {
        Check.Story backed = c -> {
            FOUR.tell(c);
            c.back(1, 0, 60, 10);
        };
        Check.badIndex("17: backer -1", FOUR, c -> back(c, -1, 0, 1, 0));
        Check.badIndex("17: backer 4", FOUR, c -> back(c, 4, 0, 1, 0));
        Check.badIndex("17: miner -1", FOUR, c -> back(c, 0, -1, 1, 0));
        Check.badIndex("17: miner 4", FOUR, c -> back(c, 0, 4, 1, 0));
        Check.badIndex("17: both the same, but none", FOUR, c -> back(c, 4, 4, 0, 0));
        Check.badArgument("17: percent 0", FOUR, c -> back(c, 1, 0, 0, 0));
        Check.badArgument("17: percent 101", FOUR, c -> back(c, 1, 0, 101, 0));
        Check.badArgument("17: coins -1", FOUR, c -> back(c, 1, 0, 1, -1));
        Check.badArgument("17: coins 100001", FOUR, c -> back(c, 1, 0, 1, 100001));
        Check.badArgument("17: the same", FOUR, c -> back(c, 1, 1, 1, 0));
        Check.badArgument("17: argument ahead of state", DEAD, c -> back(c, 3, 3, 1, 0));
        Check.badState("17: a dead backer", DEAD, c -> back(c, 3, 0, 1, 0));
        Check.badState("17: a dead miner", DEAD, c -> back(c, 0, 3, 1, 0));
        Check.badState("17: backed by the same", backed, c -> back(c, 1, 0, 1, 0));
        Check.badState("17: less coins", FOUR, c -> back(c, 1, 0, 1, 61));
        Check.badState("17: the coins are gone", backed, c -> back(c, 1, 2, 1, 51));
        Check.badState("17: above 100", backed, c -> back(c, 2, 0, 41, 0));
        Check.answers("17: just 100", backed, c -> back(c, 2, 0, 40, 0) + c.ofMiner(0, 7), 100);
        Check.answers("17: another miner", backed, c -> back(c, 1, 2, 100, 50)
                + c.ofMiner(2, 3), 120);
        Check.answers("17: each other", backed, c -> back(c, 0, 1, 100, 60) + c.ofMiner(1, 3), 110);
    }

    private static void endRefused() {
        Check.Story backed = c -> {
            FOUR.tell(c);
            c.back(1, 0, 60, 10);
        };
        Check.badIndex("18: backer -1", backed, c -> c.end(-1, 0));
        Check.badIndex("18: backer 4", backed, c -> c.end(4, 0));
        Check.badIndex("18: miner -1", backed, c -> c.end(1, -1));
        Check.badIndex("18: miner 4", backed, c -> c.end(1, 4));
        Check.badIndex("18: a row that could be, but is not", backed, c -> c.end(11, 0));
        Check.badState("18: not backed", backed, c -> c.end(2, 0));
        Check.badState("18: the other way round", backed, c -> c.end(0, 1));
        Check.badState("18: the same", backed, c -> c.end(0, 0));
        Check.badState("18: ended", c -> {
            backed.tell(c);
            c.end(1, 0);
        }, c -> c.end(1, 0));
    }

    public static void main(String[] args) {
        shares();
        largeShares();
        backRefused();
        endRefused();
        Check.end();
    }
}
