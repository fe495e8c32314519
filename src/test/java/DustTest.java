/** Promises 12 to 14, and the dust of promise 25: brass, sell, rate, ofMiner. */
final class DustTest {
    private static final Check.Story NEW = camp -> { };

    /** Miner 0 has 1000 gold; miner 1 is dead. */
    private static final Check.Story RICH = c -> {
        c.ground(0, 2000, 0);
        c.miner(100, 7);
        c.miner(0, 0);
        c.peg(0, 0, 1);
        c.right(0, 40);
        c.work(0, 0, NuggetCamp.MONITOR);
        c.pass(5);
    };

    private static Check.Story withBrass(int grains) {
        return c -> {
            RICH.tell(c);
            c.brass(0, grains);
        };
    }

    private static void brass() {
        NuggetCamp camp = Check.camp(RICH);
        Check.due("12: first", camp.brass(0, 1), 1);
        Check.due("12: most at once", camp.brass(0, 10000), 10001);
        Check.due("12: asked", camp.ofMiner(0, 1), 10001);
        Check.due("12: no gold", camp.ofMiner(0, 0), 1000);
        Check.Story most = c -> {
            RICH.tell(c);
            for (int i = 0; i < 9; i++) {
                c.brass(0, 10000);
            }
            c.brass(0, 9999);
        };
        Check.answers("12: just the most", most, c -> c.brass(0, 1), 100000);
        Check.badState("12: above the most", most, c -> c.brass(0, 2));
        Check.badState("12: a dead one", RICH, c -> c.brass(1, 1));
        Check.badIndex("12: miner -1", RICH, c -> c.brass(-1, 1));
        Check.badIndex("12: miner 2", RICH, c -> c.brass(2, 1));
        Check.badIndex("12: miner ahead of grains", RICH, c -> c.brass(2, 0));
        Check.badArgument("12: grains 0", RICH, c -> c.brass(0, 0));
        Check.badArgument("12: grains 10001", RICH, c -> c.brass(0, 10001));
        Check.badArgument("12: grains ahead of state", RICH, c -> c.brass(1, 0));
    }

    private static void checkSold(String what, Check.Story story, int dust, int... due) {
        NuggetCamp camp = Check.camp(story);
        Check.due(what + ": paid", camp.sell(0, dust), due[0]);
        Check.due(what + ": gold", camp.ofMiner(0, 0), due[1]);
        Check.due(what + ": brass", camp.ofMiner(0, 1), due[2]);
        Check.due(what + ": coins", camp.ofMiner(0, 3), due[3]);
        Check.due(what + ": bank", camp.gold(3), due[4]);
        Check.due(what + ": caught", camp.ofMiner(0, 6), due[5]);
    }

    private static void sell() {
        checkSold("13: pure", RICH, 100, 100, 900, 0, 107, 100, 0);
        checkSold("13: all", RICH, 1000, 1000, 0, 0, 1007, 1000, 0);
        checkSold("13: salted", withBrass(50), 500, 500, 523, 27, 507, 477, 0);
        checkSold("13: rounded down", withBrass(50), 20, 20, 980, 50, 27, 20, 0);
        checkSold("13: one brass", withBrass(50), 21, 21, 980, 49, 28, 20, 0);
        checkSold("13: a twentieth and less", withBrass(52), 1052, 1052, 0, 0, 1059, 1000, 0);
        checkSold("13: tested", withBrass(53), 1, NuggetCamp.NONE, 1000, 53, 7, 0, 1);
        checkSold("13: another rate", c -> {
            RICH.tell(c);
            c.rate(25);
        }, 7, 17, 993, 0, 24, 7, 0);
        checkSold("13: less than a coin", c -> {
            RICH.tell(c);
            c.rate(1);
        }, 9, 0, 991, 0, 7, 9, 0);
        Check.answers("13: the bank keeps what it has", c -> {
            RICH.tell(c);
            c.sell(0, 100);
            c.sell(0, 20);
        }, c -> c.gold(3), 120);
        NuggetCamp twice = Check.camp(withBrass(53));
        twice.sell(0, 1);
        twice.sell(0, 1053);
        Check.due("13: caught twice", twice.ofMiner(0, 6), 2);
    }

    /** Gold of 19 and brass of 1: the brass times 20 is just the dust. */
    private static void theTwentieth() {
        Check.Story nineteen = c -> {
            c.ground(0, 20, 0);
            c.ground(5, 2, 0);
            c.miner(100, 0);
            c.work(0, 0, NuggetCamp.PAN);
            c.pass(1);
            c.work(0, 5, NuggetCamp.PAN);
            c.brass(0, 1);
        };
        checkSold("13: at the twentieth", nineteen, 20, 20, 0, 0, 20, 19, 0);
        Check.answers("13: beyond it", c -> {
            nineteen.tell(c);
            c.brass(0, 1);
        }, c -> c.sell(0, 1), NuggetCamp.NONE);
    }

    /** A sale whose product of dust and brass is beyond the largest int. */
    private static void largeSale() {
        Check.Story large = c -> {
            c.ground(0, 100000, 0);
            c.ground(1, 100000, 0);
            c.miner(1000, 0);
            c.peg(0, 0, 2);
            c.right(0, 40);
            for (int i = 0; i < 90; i++) {
                c.work(0, i < 50 ? 0 : 1, NuggetCamp.MONITOR);
                c.pass(1);
            }
            c.brass(0, 4000);
        };
        NuggetCamp camp = Check.camp(large);
        int gold = camp.ofMiner(0, 0);
        Check.due("13: the test is rich enough", gold >= 76000, true);
        long all = gold + 4000;
        camp.rate(100);
        Check.due("13: large", camp.sell(0, gold), gold * 10);
        Check.due("13: large, brass", camp.ofMiner(0, 1), 4000 - gold * 4000L / all);
        Check.due("13: large, all gold", camp.gold(4), 200000);
    }

    private static void sellRefused() {
        Check.badIndex("13: miner -1", RICH, c -> c.sell(-1, 1));
        Check.badIndex("13: miner 2", RICH, c -> c.sell(2, 1));
        Check.badIndex("13: miner ahead of dust", RICH, c -> c.sell(2, 0));
        Check.badArgument("13: dust 0", RICH, c -> c.sell(0, 0));
        Check.badArgument("13: dust 1000001", RICH, c -> c.sell(0, 1000001));
        Check.badArgument("13: dust ahead of state", RICH, c -> c.sell(1, 0));
        Check.badState("13: less dust", RICH, c -> c.sell(0, 1001));
        Check.badState("13: the most, but less", RICH, c -> c.sell(0, 1000000));
        Check.badState("13: less dust ahead of the test", withBrass(500), c -> c.sell(0, 1501));
        Check.badState("13: a dead one", c -> {
            c.ground(0, 20, 0);
            c.miner(0, 0);
            c.work(0, 0, NuggetCamp.PAN);
            c.pass(5);
        }, c -> c.sell(0, 1));
        Check.badState("13: none at all", c -> c.miner(1, 1), c -> c.sell(0, 1));
    }

    private static void rate() {
        NuggetCamp camp = new NuggetCamp();
        Check.due("14: at first", camp.rate(100), 10);
        Check.due("14: most", camp.rate(1), 100);
        Check.thrownBy(camp, c -> c.rate(0));
        Check.due("14: least", camp.rate(5), 1);
        Check.badArgument("14: 0", NEW, c -> c.rate(0));
        Check.badArgument("14: 101", NEW, c -> c.rate(101));
    }

    private static void ofMiner() {
        Check.badIndex("25: miner -1", RICH, c -> c.ofMiner(-1, 0));
        Check.badIndex("25: miner 2", RICH, c -> c.ofMiner(2, 0));
        Check.badIndex("25: miner ahead of what", RICH, c -> c.ofMiner(2, 8));
        Check.badArgument("25: what -1", RICH, c -> c.ofMiner(0, -1));
        Check.badArgument("25: what 8", RICH, c -> c.ofMiner(0, 8));
        int[] due = {1000, 53, 95, 7, 10, 40, 1, 0};
        for (int what = 0; what < due.length; what++) {
            int asked = what;
            Check.answers("25: ofMiner " + what, c -> {
                withBrass(53).tell(c);
                c.sell(0, 1);
            }, c -> c.ofMiner(0, asked), due[what]);
        }
    }

    public static void main(String[] args) {
        brass();
        sell();
        theTwentieth();
        largeSale();
        sellRefused();
        rate();
        ofMiner();
        Check.end();
    }
}
