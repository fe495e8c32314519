/** Promises 15, 16 and 28: freight, buy, camp. */
final class StoreTest {
    private static final Check.Story NEW = camp -> { };

    private static long freight(NuggetCamp camp, int food, int day) {
        camp.freight(food, day);
        return 0;
    }

    private static void send(NuggetCamp camp, int count, int day) {
        for (int i = 0; i < count; i++) {
            camp.freight(1, day);
        }
    }

    private static void arrivals() {
        NuggetCamp camp = new NuggetCamp();
        camp.freight(30, 2);
        camp.freight(1000, 3);
        camp.freight(7, 2);
        Check.due("15: on their way", camp.camp(4), 3);
        camp.pass(1);
        Check.due("15: not yet", camp.camp(2), 50);
        camp.pass(1);
        Check.due("15: both of the day", camp.camp(2), 87);
        Check.due("15: one is left", camp.camp(4), 1);
        camp.pass(1);
        Check.due("15: the last one", camp.camp(2), 1087);
        Check.due("15: none is left", camp.camp(4), 0);
        camp.pass(9);
        Check.due("15: once", camp.camp(2), 1087);
        Check.answers("15: in the midst of days", c -> {
            c.freight(5, 20);
            c.pass(30);
        }, c -> c.camp(2), 55);
        Check.answers("15: behind the miners' meal", c -> {
            c.miner(0, 0);
            c.freight(5, 1);
            c.pass(1);
        }, c -> c.ofMiner(0, 4), 8);
    }

    private static void freightRefused() {
        Check.Story twenty = c -> send(c, 20, 9);
        Check.badArgument("15: food 0", NEW, c -> freight(c, 0, 5));
        Check.badArgument("15: food 1001", NEW, c -> freight(c, 1001, 5));
        Check.badArgument("15: today", NEW, c -> freight(c, 1, 0));
        Check.badArgument("15: an earlier day", c -> c.pass(5), c -> freight(c, 1, 4));
        Check.badArgument("15: the same day", c -> c.pass(5), c -> freight(c, 1, 5));
        Check.badArgument("15: day 5001", NEW, c -> freight(c, 1, 5001));
        Check.badState("15: twenty", twenty, c -> freight(c, 1, 9));
        Check.badArgument("15: argument ahead of state", twenty, c -> freight(c, 1, 0));
        Check.answers("15: the last day", c -> c.freight(1, 5000), c -> c.camp(4), 1);
        Check.answers("15: the twentieth", c -> send(c, 19, 9), c -> {
            c.freight(1, 9);
            return c.camp(4);
        }, 20);
        Check.answers("15: room behind an arrival", c -> {
            send(c, 19, 9);
            c.freight(3, 1);
            c.pass(1);
            c.freight(4, 10);
            c.pass(9);
        }, c -> c.camp(2), 50 + 19 + 3 + 4);
        Check.badArgument("15: no day is later than the last one", c -> {
            for (int i = 0; i < 25; i++) {
                c.pass(200);
            }
        }, c -> freight(c, 1, 5000));
    }

    private static void buy() {
        Check.Story rich = c -> {
            c.miner(3, 1000);
            c.miner(9, 44);
            c.miner(0, 100);
            c.pass(5);
        };
        Check.answers("16: one", rich, c -> c.buy(0, 1), 15);
        Check.answers("16: all", rich, c -> c.buy(0, 50), 750);
        NuggetCamp camp = Check.camp(rich);
        Check.due("16: some, at the price ahead of it", camp.buy(0, 10), 150);
        Check.due("16: food", camp.ofMiner(0, 2), 10);
        Check.due("16: coins", camp.ofMiner(0, 3), 850);
        Check.due("16: the store's food", camp.camp(2), 40);
        Check.due("28: the price then", camp.camp(3), 17);
        Check.due("16: at the new price", camp.buy(0, 4), 68);
        Check.due("28: rounded down", camp.camp(3), 17);
        Check.due("16: with just the coins", camp.buy(1, 2), 34);
        Check.due("28: rounded down again", camp.camp(3), 18);
        Check.answers("16: food beside what is there", c -> {
            c.miner(7, 100);
            c.buy(0, 4);
        }, c -> c.ofMiner(0, 2), 11);
        Check.badIndex("16: miner -1", rich, c -> c.buy(-1, 1));
        Check.badIndex("16: miner 3", rich, c -> c.buy(3, 1));
        Check.badIndex("16: miner ahead of food", rich, c -> c.buy(3, 0));
        Check.badArgument("16: food 0", rich, c -> c.buy(0, 0));
        Check.badArgument("16: food 1001", rich, c -> c.buy(0, 1001));
        Check.badArgument("16: food ahead of state", rich, c -> c.buy(2, 0));
        Check.badState("16: the store has less", rich, c -> c.buy(0, 51));
        Check.badState("16: too few coins", rich, c -> c.buy(1, 3));
        Check.badState("16: a dead one", rich, c -> c.buy(2, 1));
    }

    private static void prices() {
        int[][] due = {{49, 5}, {50, 5}, {51, 5}, {45, 6}, {46, 5}, {41, 6}, {40, 7}, {1, 14},
            {950, 5}};
        for (int[] row : due) {
            Check.answers("28: price with " + (50 + row[0]), c -> {
                c.freight(row[0], 1);
                c.pass(1);
            }, c -> c.camp(3), row[1]);
        }
        Check.answers("28: price of an empty store", c -> {
            c.miner(0, 1000);
            c.buy(0, 50);
        }, c -> c.camp(3), 25);
        Check.answers("16: a thousand", c -> {
            c.miner(0, 5000);
            c.freight(1000, 1);
            c.pass(1);
        }, c -> c.buy(0, 1000), 5000);
        Check.badArgument("28: what -1", NEW, c -> c.camp(-1));
        Check.badArgument("28: what 6", NEW, c -> c.camp(6));
        Check.answers("28: the living", c -> {
            c.miner(0, 0);
            c.miner(9, 0);
            c.pass(5);
        }, c -> c.camp(5), 1);
    }

    public static void main(String[] args) {
        arrivals();
        freightRefused();
        buy();
        prices();
        Check.end();
    }
}
