/** Promises 5 and 22: pass and day, with what a day does to miners, claims and freight. */
final class DayTest {
    private static final Check.Story NEW = camp -> { };

    private static void days() {
        NuggetCamp camp = new NuggetCamp();
        Check.due("5: one day", camp.pass(1), 1);
        Check.due("22: day", camp.day(), 1);
        Check.due("5: most days", camp.pass(200), 201);
        Check.toDay(camp, 4999);
        Check.due("5: the last day", camp.pass(1), 5000);
        Check.badArgument("5: 0 days", NEW, c -> c.pass(0));
        Check.badArgument("5: -1 days", NEW, c -> c.pass(-1));
        Check.badArgument("5: 201 days", NEW, c -> c.pass(201));
        Check.badArgument("5: largest", NEW, c -> c.pass(Integer.MAX_VALUE));
        Check.badState("5: above 5000", c -> Check.toDay(c, 4990), c -> c.pass(11));
        Check.badState("5: behind the last day", c -> Check.toDay(c, 5000), c -> c.pass(1));
        Check.badArgument("5: argument ahead of state", c -> Check.toDay(c, 5000), c -> c.pass(201));
        Check.answers("5: just 5000", c -> Check.toDay(c, 4990), c -> c.pass(10), 5000);
    }

    private static void health() {
        NuggetCamp camp = new NuggetCamp();
        camp.miner(0, 100);
        camp.miner(0, 0);
        camp.miner(3, 0);
        for (int day = 1; day <= 5; day++) {
            camp.pass(1);
            Check.due("5: without food", camp.ofMiner(1, 4), 10 - 2 * day);
            int fed = day <= 3 ? 10 : 10 - 2 * (day - 3);
            Check.due("5: with food for three days", camp.ofMiner(2, 4), fed);
            Check.due("5: food", camp.ofMiner(2, 2), Math.max(0, 3 - day));
        }
        NuggetCamp eater = new NuggetCamp();
        eater.miner(0, 100);
        eater.pass(1);
        eater.buy(0, 3);
        int[] health = {9, 10, 10, 8, 6, 4, 2, 0, 0};
        for (int i = 0; i < health.length; i++) {
            eater.pass(1);
            Check.due("5: health is 1 more with food, day " + i, eater.ofMiner(0, 4), health[i]);
        }
        NuggetCamp odd = new NuggetCamp();
        odd.miner(0, 100);
        odd.pass(2);
        odd.buy(0, 1);
        int[] oddHealth = {7, 5, 3, 1, 0, 0};
        for (int i = 0; i < oddHealth.length; i++) {
            odd.pass(1);
            Check.due("5: never below 0, day " + i, odd.ofMiner(0, 4), oddHealth[i]);
        }
        NuggetCamp late = new NuggetCamp();
        late.miner(4, 0);
        late.pass(8);
        Check.due("5: health above 0", late.ofMiner(0, 4), 2);
        late.pass(1);
        Check.due("5: dead", late.camp(5), 0);
    }

    private static void theDead() {
        Check.Story dead = c -> {
            c.ground(0, 1000, 0);
            c.miner(5, 70);
            c.brass(0, 8);
            c.work(0, 0, NuggetCamp.PAN);
            c.freight(30, 11);
            c.peg(0, 0, 1);
            c.right(0, 10);
            c.miner(100, 0);
            c.back(1, 0, 30, 0);
            c.pass(10);
        };
        int[] due = {18, 8, 0, 70, 0, 0, 0, 30};
        for (int what = 0; what < due.length; what++) {
            int asked = what;
            Check.answers("5: what a dead one has stays " + what, dead,
                    c -> c.ofMiner(0, asked), due[what]);
        }
        Check.answers("5: a dead one does not eat", c -> {
            c.miner(0, 0);
            c.pass(20);
        }, c -> c.ofMiner(0, 4), 0);
        Check.answers("5: a dead one holds no claim", dead, c -> c.ofClaim(0, 3), 0);
        Check.answers("5: freight arrives all the same", c -> {
            dead.tell(c);
            c.pass(1);
        }, c -> c.camp(2), 80);
    }

    private static void lapsing() {
        Check.Story pegged = c -> {
            c.miner(100, 0);
            c.peg(0, 4, 3);
        };
        Check.answers("5: held on the last day", c -> {
            pegged.tell(c);
            c.pass(7);
        }, c -> c.ofClaim(0, 3), 1);
        Check.answers("5: lapsed behind it", c -> {
            pegged.tell(c);
            c.pass(8);
        }, c -> c.ofClaim(0, 3), 0);
        Check.answers("5: lapsed in the midst of days", c -> {
            pegged.tell(c);
            c.pass(50);
        }, c -> c.holds(4), NuggetCamp.NONE);
        Check.answers("5: work keeps it", c -> {
            pegged.tell(c);
            c.pass(7);
            c.work(0, 6, NuggetCamp.PAN);
            c.pass(7);
        }, c -> c.holds(4), 0);
        Check.answers("5: work elsewhere does not", c -> {
            pegged.tell(c);
            c.pass(7);
            c.work(0, 7, NuggetCamp.PAN);
            c.pass(1);
        }, c -> c.holds(4), NuggetCamp.NONE);
        Check.answers("5: a lapsed one does not come back by work", c -> {
            pegged.tell(c);
            c.pass(8);
            c.work(0, 4, NuggetCamp.PAN);
            c.pass(1);
        }, c -> c.ofClaim(0, 4), 0);
        Check.answers("5: it lapses on the day its miner dies", c -> {
            c.miner(0, 0);
            c.peg(0, 0, 1);
            c.pass(5);
        }, c -> c.holds(0), NuggetCamp.NONE);
        Check.answers("5: the dying hold it till then", c -> {
            c.miner(0, 0);
            c.peg(0, 0, 1);
            c.pass(4);
        }, c -> c.holds(0), 0);
    }

    public static void main(String[] args) {
        days();
        health();
        theDead();
        lapsing();
        Check.end();
    }
}
