/** Promises 30 and 31: plan and planCell, beside a search of the test's own. */
final class PlanTest {
    private static final int[] HUNDREDTHS = {90, 70, 80, 50};
    private static final int[] MOST = {20, 100, 400, 2000};

    /** Digs the cells in all orders that begin as the order does; the best one comes out. */
    private static int[] search(int[] grains, int[] clay, int method, int[] order, int place,
            int sum) {
        if (place == order.length) {
            int[] found = new int[order.length + 1];
            found[0] = sum;
            System.arraycopy(order, 0, found, 1, order.length);
            return found;
        }
        int[] best = {-1};
        for (int cell = 0; cell < order.length; cell++) {
            boolean used = false;
            for (int i = 0; i < place; i++) {
                used |= order[i] == cell;
            }
            if (used) {
                continue;
            }
            int[] left = grains.clone();
            int taken = Math.min(left[cell], MOST[method]);
            int recovered = taken * (HUNDREDTHS[method] - clay[cell] * 3) / 100;
            left[cell] -= taken;
            left[cell + 1] += taken - recovered;
            order[place] = cell;
            int[] found = search(left, clay, method, order, place + 1, sum + recovered);
            if (found[0] > best[0]) {
                best = found;
            }
        }
        return best;
    }

    private static Check.Story claim(int top, int[] grains, int[] clay, int many) {
        return c -> {
            for (int i = 0; i < many; i++) {
                c.ground(top + i, grains[i], clay[i]);
            }
            c.miner(100, 0);
            c.meet(10, 7, 1, 0);
            c.peg(0, top, many);
        };
    }

    private static void manyClaims() {
        long seed = 7;
        for (int round = 0; round < 400; round++) {
            int many = 1 + round % 5;
            int top = round % 7 == 0 ? 40 - many : round % 30;
            int[] grains = new int[many + 1];
            int[] clay = new int[many + 1];
            int[] sizes = {30, 150, 600, 3000, 10, 200};
            for (int i = 0; i < many; i++) {
                seed = seed * 6364136223846793005L + 1442695040888963407L;
                grains[i] = (int) ((seed >>> 33) % sizes[round % sizes.length]);
                clay[i] = (int) ((seed >>> 20) % 10 + 10) % 10;
            }
            Check.Story story = claim(top, grains, clay, many);
            NuggetCamp camp = Check.camp(story);
            for (int method = 0; method < 4; method++) {
                int[] best = search(grains, clay, method, new int[many], 0, 0);
                Check.due("30: round " + round, camp.plan(0, method), best[0]);
                for (int place = 0; place < many; place++) {
                    Check.due("31: round " + round, camp.planCell(0, method, place),
                            top + best[place + 1]);
                }
                Check.due("31: behind it", camp.planCell(0, method, many), NuggetCamp.NONE);
            }
            if (round < 30) {
                Check.changesNothing("30: a question", story, c -> c.plan(0, NuggetCamp.SLUICE));
                Check.changesNothing("31: a question", story,
                        c -> c.planCell(0, NuggetCamp.SLUICE, 4));
            }
        }
    }

    private static void ordinary() {
        int[] grains = {100, 0, 30};
        Check.Story story = claim(37, grains, new int[] {0, 0, 5}, 3);
        Check.answers("30: downwards", story, c -> c.plan(0, NuggetCamp.ROCKER), 70 + 21 + 21);
        Check.answers("30: it can be dug so", c -> {
            story.tell(c);
            c.right(0, 2);
            for (int place = 0; place < 3; place++) {
                c.work(0, c.planCell(0, NuggetCamp.ROCKER, place), NuggetCamp.ROCKER);
                c.pass(1);
            }
        }, c -> c.ofMiner(0, 0), 112);
        Check.Story rounded = claim(0, new int[] {5, 11}, new int[] {0, 0}, 2);
        Check.answers("30: a rest that spoils nothing", rounded, c -> c.plan(0, 0), 14);
        Check.answers("31: first of equal ones", claim(8, new int[5], new int[5], 5),
                c -> c.planCell(0, 0, 0) * 100 + c.planCell(0, 0, 4), 812);
        Check.answers("30: a lapsed claim", c -> {
            story.tell(c);
            c.pass(50);
        }, c -> c.plan(0, NuggetCamp.ROCKER), 112);
        Check.answers("30: what the ground is now", c -> {
            story.tell(c);
            c.work(0, 37, NuggetCamp.PAN);
        }, c -> c.plan(0, NuggetCamp.ROCKER), 56 + 18 + 20);
        Check.answers("31: a far place", story, c -> c.planCell(0, 0, Integer.MAX_VALUE),
                NuggetCamp.NONE);
        Check.answers("31: after a plan of five", c -> {
            claim(8, new int[5], new int[5], 5).tell(c);
            c.peg(0, 30, 2);
            c.plan(0, 0);
        }, c -> c.planCell(1, 0, 2), NuggetCamp.NONE);
    }

    private static void refused() {
        Check.Story five = claim(0, new int[5], new int[5], 5);
        Check.Story six = claim(0, new int[6], new int[6], 6);
        Check.badIndex("30: claim -1", five, c -> c.plan(-1, 0));
        Check.badIndex("30: claim 1", five, c -> c.plan(1, 0));
        Check.badIndex("30: claim ahead of method", five, c -> c.plan(1, 4));
        Check.badArgument("30: method -1", five, c -> c.plan(0, -1));
        Check.badArgument("30: method 4", five, c -> c.plan(0, 4));
        Check.badArgument("30: method ahead of state", six, c -> c.plan(0, 4));
        Check.badState("30: six cells", six, c -> c.plan(0, 0));
        Check.badIndex("31: claim -1", five, c -> c.planCell(-1, 0, 0));
        Check.badIndex("31: claim 1", five, c -> c.planCell(1, 0, 0));
        Check.badIndex("31: place -1", five, c -> c.planCell(0, 0, -1));
        Check.badIndex("31: place ahead of method", five, c -> c.planCell(0, 4, -1));
        Check.badIndex("31: place ahead of state", six, c -> c.planCell(0, 0, -1));
        Check.badArgument("31: method -1", five, c -> c.planCell(0, -1, 0));
        Check.badArgument("31: method 4", five, c -> c.planCell(0, 4, 9));
        Check.badArgument("31: method ahead of state", six, c -> c.planCell(0, 4, 0));
        Check.badState("31: six cells", six, c -> c.planCell(0, 0, 0));
        Check.badState("31: six cells, a far place", six, c -> c.planCell(0, 0, 9));
    }

    public static void main(String[] args) {
        ordinary();
        refused();
        manyClaims();
        Check.end();
    }
}
