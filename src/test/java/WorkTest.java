/** Promises 9, 11 and 27: work, salt, gold. */
final class WorkTest {
    private static final int PAN = NuggetCamp.PAN;
    private static final int ROCKER = NuggetCamp.ROCKER;
    private static final int SLUICE = NuggetCamp.SLUICE;
    private static final int MONITOR = NuggetCamp.MONITOR;

    /** Miner 0 holds the cells 37 to 39 and gets 40 inches; miner 1 holds the cell 0. */
    private static final Check.Story CAMP = c -> {
        c.ground(0, 90, 0);
        c.ground(1, 33, 9);
        c.ground(37, 5000, 0);
        c.ground(38, 350, 2);
        c.ground(39, 1000, 9);
        c.miner(100, 0);
        c.miner(100, 0);
        c.peg(0, 37, 3);
        c.peg(1, 0, 1);
        c.right(0, 40);
    };

    private static void methods() {
        int[] recovered = {18, 70, 320, 1000};
        int[] taken = {20, 100, 400, 2000};
        for (int i = 0; i < 4; i++) {
            int method = i;
            Check.answers("9: without clay by " + i, CAMP, c -> c.work(0, 37, method),
                    recovered[i]);
            Check.answers("9: gold left by " + i, c -> {
                CAMP.tell(c);
                c.work(0, 37, method);
            }, c -> c.gold(0), 6473 - recovered[i]);
            int below = (350 + taken[i] - recovered[i]) / 100;
            Check.answers("9: the rest goes below by " + i, c -> {
                CAMP.tell(c);
                c.work(0, 37, method);
            }, c -> c.sample(38), below);
            Check.answers("9: what is taken by " + i, c -> {
                CAMP.tell(c);
                c.work(0, 37, method);
            }, c -> c.sample(37), (5000 - taken[i]) / 100);
        }
        int[] muddy = {12, 43, 212, 230};
        int[] lost = {8, 57, 188, 770};
        for (int i = 0; i < 4; i++) {
            int method = i;
            Check.answers("9: with clay by " + i, CAMP, c -> c.work(0, 39, method), muddy[i]);
            Check.answers("9: into the sea by " + i, c -> {
                CAMP.tell(c);
                c.work(0, 39, method);
            }, c -> c.gold(1), lost[i]);
        }
        Check.answers("9: into the sea again", c -> {
            CAMP.tell(c);
            c.work(0, 39, PAN);
            c.pass(1);
            c.work(0, 39, PAN);
        }, c -> c.gold(1), 16);
        Check.answers("9: at most what is there", CAMP, c -> c.work(0, 38, MONITOR), 154);
        Check.answers("9: by pan where nobody holds", CAMP, c -> c.work(0, 1, PAN), 12);
        Check.answers("9: no grains", CAMP, c -> c.work(0, 20, PAN), 0);
        Check.answers("9: a claim's cell by pan", CAMP, c -> c.work(1, 0, PAN), 18);
        Check.answers("9: the miner has it", c -> {
            CAMP.tell(c);
            c.work(0, 38, SLUICE);
        }, c -> c.ofMiner(0, 0), 259);
    }

    private static void clayByEach() {
        int[] hundredths = {90, 70, 80, 50};
        for (int clay = 0; clay <= 9; clay++) {
            for (int i = 0; i < 4; i++) {
                int told = clay;
                int method = i;
                Check.answers("9: clay " + clay + " by " + i, c -> {
                    c.ground(7, 19, told);
                    c.miner(9, 0);
                    c.peg(0, 7, 1);
                    c.right(0, 40);
                }, c -> c.work(0, 7, method), 19 * (hundredths[i] - 3 * clay) / 100);
            }
        }
    }

    private static void oncePerDay() {
        NuggetCamp camp = Check.camp(CAMP);
        Check.due("9: first", camp.work(0, 37, PAN), 18);
        Check.due("9: again", code(Check.thrownBy(camp, c -> c.work(0, 38, PAN))), 1);
        Check.due("9: another miner", camp.work(1, 20, PAN), 0);
        camp.pass(1);
        Check.due("9: on the next day", camp.work(0, 37, PAN), 18);
        Check.badState("9: none worked, still once", c -> {
            CAMP.tell(c);
            c.work(0, 20, PAN);
        }, c -> c.work(0, 37, PAN));
        NuggetCamp refused = Check.camp(CAMP);
        Check.thrownBy(refused, c -> c.work(0, 0, PAN));
        Check.due("9: a refused one is no work", refused.work(0, 37, PAN), 18);
    }

    private static int code(String thrown) {
        return thrown.equals("IllegalStateException") ? 1 : 0;
    }

    private static void workRefused() {
        Check.badIndex("9: miner -1", CAMP, c -> c.work(-1, 37, PAN));
        Check.badIndex("9: miner 2", CAMP, c -> c.work(2, 37, PAN));
        Check.badIndex("9: cell -1", CAMP, c -> c.work(0, -1, PAN));
        Check.badIndex("9: cell 40", CAMP, c -> c.work(0, 40, PAN));
        Check.badIndex("9: cell ahead of method", CAMP, c -> c.work(0, 40, 4));
        Check.badArgument("9: method -1", CAMP, c -> c.work(0, 37, -1));
        Check.badArgument("9: method 4", CAMP, c -> c.work(0, 37, 4));
        Check.badArgument("9: method ahead of state", CAMP, c -> c.work(1, 37, 4));
        Check.badState("9: another's claim by pan", CAMP, c -> c.work(1, 37, PAN));
        Check.badState("9: another's claim by monitor", CAMP, c -> c.work(0, 0, MONITOR));
        for (int method = ROCKER; method <= MONITOR; method++) {
            int asked = method;
            Check.badState("9: nobody's by " + method, CAMP, c -> c.work(0, 1, asked));
            Check.badState("9: without water by " + method, CAMP, c -> c.work(1, 0, asked));
        }
        int[] inches = {0, 2, 10, 40};
        for (int method = PAN; method <= MONITOR; method++) {
            int asked = method;
            Check.Story enough = c -> {
                CAMP.tell(c);
                c.flow(inches[asked]);
            };
            Check.due("9: just the inches by " + method,
                    Check.camp(enough).work(0, 37, method) > 0, true);
            if (inches[method] > 0) {
                Check.badState("9: too little water by " + method, c -> {
                    CAMP.tell(c);
                    c.flow(inches[asked] - 1);
                }, c -> c.work(0, 37, asked));
            }
        }
        Check.answers("9: inches of several rights", c -> {
            CAMP.tell(c);
            c.right(1, 1);
            c.right(1, 1);
        }, c -> c.work(1, 0, ROCKER), 63);
        Check.badState("9: a lapsed claim is nobody's", c -> {
            CAMP.tell(c);
            c.pass(8);
        }, c -> c.work(0, 37, ROCKER));
        Check.answers("9: by pan then", c -> {
            CAMP.tell(c);
            c.pass(8);
        }, c -> c.work(1, 37, PAN), 18);
        Check.badState("9: a dead one", c -> {
            CAMP.tell(c);
            c.miner(0, 0);
            c.pass(5);
        }, c -> c.work(2, 20, PAN));
    }

    private static void salt() {
        Check.Story rich = c -> {
            CAMP.tell(c);
            c.work(0, 37, MONITOR);
            c.miner(0, 0);
        };
        Check.answers("11: the grains then", rich, c -> c.salt(0, 38, 100), 1450);
        Check.answers("11: another's cell", rich, c -> c.salt(0, 0, 1), 91);
        Check.answers("11: nobody's cell, all the gold", rich, c -> c.salt(0, 20, 1000), 1000);
        Check.answers("11: the gold is gone", c -> {
            rich.tell(c);
            c.salt(0, 20, 999);
        }, c -> c.ofMiner(0, 0), 1);
        Check.answers("11: it is in the ground", c -> {
            rich.tell(c);
            c.salt(0, 20, 999);
        }, c -> c.gold(0) * 10 + c.ofMiner(0, 0), 64721);
        Check.answers("11: salting is no work", c -> {
            rich.tell(c);
            c.pass(1);
            c.salt(0, 38, 1);
        }, c -> c.work(0, 38, PAN), 16);
        Check.badIndex("11: miner -1", rich, c -> c.salt(-1, 0, 1));
        Check.badIndex("11: miner 3", rich, c -> c.salt(3, 0, 1));
        Check.badIndex("11: cell -1", rich, c -> c.salt(0, -1, 1));
        Check.badIndex("11: cell 40", rich, c -> c.salt(0, 40, 1));
        Check.badIndex("11: cell ahead of grains", rich, c -> c.salt(0, 40, 0));
        Check.badArgument("11: grains 0", rich, c -> c.salt(0, 0, 0));
        Check.badArgument("11: grains 10001", rich, c -> c.salt(0, 0, 10001));
        Check.badArgument("11: grains ahead of state", rich, c -> c.salt(1, 0, 0));
        Check.badState("11: less gold", rich, c -> c.salt(0, 0, 1001));
        Check.badState("11: brass is no gold", c -> {
            CAMP.tell(c);
            c.brass(1, 100);
        }, c -> c.salt(1, 0, 1));
        Check.badState("11: a dead one", c -> {
            c.ground(0, 20, 0);
            c.miner(0, 0);
            c.work(0, 0, PAN);
            c.pass(5);
        }, c -> c.salt(0, 0, 1));
        mostSalt();
    }

    private static void mostSalt() {
        Check.Story veryRich = c -> {
            c.ground(0, 50000, 0);
            c.miner(100, 0);
            c.peg(0, 0, 1);
            c.right(0, 40);
            for (int i = 0; i < 11; i++) {
                c.work(0, 0, MONITOR);
                c.pass(1);
            }
        };
        Check.answers("11: the most at once", veryRich, c -> c.salt(0, 39, 10000), 10000);
        Check.badArgument("11: more than that", veryRich, c -> c.salt(0, 39, 10001));
    }

    private static void gold() {
        Check.Story spread = c -> {
            CAMP.tell(c);
            c.work(0, 39, MONITOR);
            c.work(1, 0, PAN);
            c.brass(1, 3);
            c.pass(1);
            c.sell(0, 30);
        };
        int[] due = {6473 - 1000 - 18, 770, 18 + 200, 30, 6473};
        for (int what = 0; what < due.length; what++) {
            int asked = what;
            Check.answers("27: gold " + what, spread, c -> c.gold(asked), due[what]);
        }
        Check.answers("27: the dead's too", c -> {
            c.ground(0, 20, 0);
            c.miner(0, 0);
            c.work(0, 0, PAN);
            c.pass(5);
        }, c -> c.gold(2), 18);
        Check.badArgument("27: what -1", spread, c -> c.gold(-1));
        Check.badArgument("27: what 5", spread, c -> c.gold(5));
        Check.answers("27: the most", c -> {
            for (int cell = 0; cell < 40; cell++) {
                c.ground(cell, 100000, 0);
            }
        }, c -> c.gold(4), 4000000);
    }

    public static void main(String[] args) {
        methods();
        clayByEach();
        oncePerDay();
        workRefused();
        salt();
        gold();
        Check.end();
    }
}
