/** Promises 1 to 4 and 10: a new object, ground, flow, miner, sample. */
final class CreekTest {
    private static final Check.Story NEW = camp -> { };

    private static void newObject() {
        NuggetCamp camp = new NuggetCamp();
        Check.due("1: day", camp.day(), 0);
        for (int what = 0; what < 5; what++) {
            Check.due("1: gold " + what, camp.gold(what), 0);
        }
        int[] due = {3, 7, 50, 15, 0, 0};
        for (int what = 0; what < due.length; what++) {
            Check.due("1: camp " + what, camp.camp(what), due[what]);
        }
        for (int cell = 0; cell < 40; cell++) {
            Check.due("1: sample", camp.sample(cell), 0);
            Check.due("1: holds", camp.holds(cell), NuggetCamp.NONE);
            Check.due("1: belief", camp.belief(cell), 0);
        }
        Check.badIndex("1: no miner", NEW, c -> c.ofMiner(0, 0));
        Check.badIndex("1: no claim", NEW, c -> c.ofClaim(0, 0));
        Check.badIndex("1: no right", NEW, c -> c.gets(0));
        Check.answers("1: no clay", c -> {
            c.miner(1, 0);
            c.back(c.miner(1, 0), 0, 100, 0);
            c.rate(1);
        }, c -> c.work(0, 0, NuggetCamp.PAN), 0);
    }

    private static void ground() {
        NuggetCamp camp = new NuggetCamp();
        Check.due("2: first", camp.ground(0, 100000, 0), 0);
        Check.due("2: in place of what it was", camp.ground(0, 250, 9), 100000);
        Check.due("2: sum", camp.gold(0), 250);
        Check.due("2: back to none", camp.ground(0, 0, 0), 250);
        Check.due("2: the last cell", camp.ground(39, 7, 1), 0);
        Check.due("2: told twice", camp.ground(39, 7, 1), 7);
        Check.answers("2: clay is replaced too", c -> {
            c.miner(1, 0);
            c.ground(3, 20, 9);
            c.ground(3, 20, 0);
        }, c -> c.work(0, 3, NuggetCamp.PAN), 18);
        Check.answers("2: miners, claims and sales do not matter", c -> {
            c.miner(1, 0);
            c.miner(1, 0);
            c.peg(0, 0, 1);
            c.brass(0, 1);
            c.trade(0, 1, 0);
        }, c -> c.ground(0, 1, 1), 0);
        groundRefused();
    }

    private static void groundRefused() {
        Check.Story later = c -> c.pass(1);
        Check.Story worked = c -> c.work(c.miner(1, 0), 20, NuggetCamp.PAN);
        Check.badIndex("2: cell -1", NEW, c -> c.ground(-1, 0, 0));
        Check.badIndex("2: cell 40", NEW, c -> c.ground(40, 0, 0));
        Check.badIndex("2: largest cell", NEW, c -> c.ground(Integer.MAX_VALUE, 0, 0));
        Check.badArgument("2: grains -1", NEW, c -> c.ground(0, -1, 0));
        Check.badArgument("2: grains 100001", NEW, c -> c.ground(0, 100001, 0));
        Check.badArgument("2: clay -1", NEW, c -> c.ground(0, 5, -1));
        Check.badArgument("2: clay 10", NEW, c -> c.ground(0, 5, 10));
        Check.badState("2: day 1", later, c -> c.ground(0, 5, 5));
        Check.badState("2: worked, though nothing was there", worked, c -> c.ground(0, 5, 5));
        Check.badIndex("2: cell ahead of the rest", worked, c -> c.ground(40, -1, 5));
        Check.badArgument("2: argument ahead of state", worked, c -> c.ground(0, -1, 5));
        Check.badArgument("2: argument ahead of the day", later, c -> c.ground(0, 5, 10));
        NuggetCamp camp = new NuggetCamp();
        camp.miner(1, 0);
        camp.ground(0, 5, 5);
        Check.thrownBy(camp, c -> c.work(0, 0, NuggetCamp.SLUICE));
        Check.thrownBy(camp, c -> c.salt(0, 0, 1));
        Check.due("2: refused work and salting do not count", camp.ground(0, 6, 6), 5);
    }

    private static void flow() {
        NuggetCamp camp = new NuggetCamp();
        Check.due("3: at first", camp.flow(0), 100);
        Check.due("3: least", camp.flow(1000), 0);
        Check.due("3: most", camp.flow(1), 1000);
        Check.badArgument("3: -1", NEW, c -> c.flow(-1));
        Check.badArgument("3: 1001", NEW, c -> c.flow(1001));
        Check.thrownBy(camp, c -> c.flow(1001));
        Check.due("3: a refused one changes nothing", camp.flow(5), 1);
        Check.answers("3: from now on", c -> {
            c.miner(1, 0);
            c.right(0, 50);
            c.flow(20);
        }, c -> c.gets(0), 20);
    }

    private static void miner() {
        NuggetCamp camp = new NuggetCamp();
        for (int i = 0; i < 12; i++) {
            Check.due("4: number", camp.miner(i, 1000 * i), i);
        }
        int[] due = {0, 0, 5, 5000, 10, 0, 0, 0};
        for (int what = 0; what < due.length; what++) {
            Check.due("4: a new one's " + what, camp.ofMiner(5, what), due[what]);
        }
        Check.answers("4: most", c -> c.miner(1000, 100000), c -> c.ofMiner(0, 3), 100000);
        Check.answers("4: most food", c -> c.miner(1000, 100000), c -> c.ofMiner(0, 2), 1000);
        Check.badArgument("4: food -1", NEW, c -> c.miner(-1, 0));
        Check.badArgument("4: food 1001", NEW, c -> c.miner(1001, 0));
        Check.badArgument("4: coins -1", NEW, c -> c.miner(0, -1));
        Check.badArgument("4: coins 100001", NEW, c -> c.miner(0, 100001));
        Check.Story twelveDead = c -> {
            for (int i = 0; i < 12; i++) {
                c.miner(0, 0);
            }
            c.pass(5);
        };
        Check.badState("4: the dead count", twelveDead, c -> c.miner(0, 0));
        Check.badArgument("4: argument ahead of state", twelveDead, c -> c.miner(1001, 0));
    }

    private static void sample() {
        Check.Story told = c -> {
            c.ground(0, 99, 0);
            c.ground(1, 100, 9);
            c.ground(39, 100000, 0);
        };
        Check.answers("10: 99", told, c -> c.sample(0), 0);
        Check.answers("10: 100", told, c -> c.sample(1), 1);
        Check.answers("10: 100000", told, c -> c.sample(39), 1000);
        Check.badIndex("10: cell -1", NEW, c -> c.sample(-1));
        Check.badIndex("10: cell 40", NEW, c -> c.sample(40));
        Check.answers("10: a sample is no work", c -> c.sample(0), c -> c.ground(0, 5, 0), 0);
    }

    public static void main(String[] args) {
        newObject();
        ground();
        flow();
        miner();
        sample();
        Check.end();
    }
}
