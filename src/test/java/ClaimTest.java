/** Promises 6, 7, 23 and 24: meet, peg, holds, ofClaim. */
final class ClaimTest {
    private static final int PAN = NuggetCamp.PAN;

    private static final Check.Story THREE = c -> {
        c.miner(100, 0);
        c.miner(100, 0);
        c.miner(0, 0);
    };

    private static int meeting(NuggetCamp camp, int size, int days, int yeses, int noes) {
        return camp.meet(size, days, yeses, noes) ? 1 : 0;
    }

    private static void meet() {
        Check.answers("6: more yeses", THREE, c -> meeting(c, 10, 100, 2, 1), 1);
        Check.answers("6: as many", THREE, c -> meeting(c, 10, 100, 1, 1), 0);
        Check.answers("6: more noes", THREE, c -> meeting(c, 10, 100, 1, 2), 0);
        Check.answers("6: nobody votes", c -> { }, c -> meeting(c, 1, 1, 0, 0), 0);
        Check.answers("6: the size then", c -> {
            THREE.tell(c);
            c.meet(10, 100, 1, 0);
        }, c -> c.camp(0), 10);
        Check.answers("6: the days then", c -> {
            THREE.tell(c);
            c.meet(10, 100, 1, 0);
        }, c -> c.camp(1), 100);
        Check.answers("6: one voted down is not the code", c -> {
            THREE.tell(c);
            c.meet(1, 1, 1, 1);
        }, c -> c.camp(0) * 100 + c.camp(1), 307);
        int[][] wrong = {{0, 1, 0, 0}, {11, 1, 0, 0}, {1, 0, 0, 0}, {1, 101, 0, 0}, {1, 1, -1, 0},
            {1, 1, 13, 0}, {1, 1, 0, -1}, {1, 1, 0, 13}, {1, 1, 4, 0}, {1, 1, 0, 4}, {1, 1, 2, 2},
            {1, 1, 4, -1}, {1, 1, Integer.MAX_VALUE, Integer.MAX_VALUE}};
        for (int[] w : wrong) {
            Check.badArgument("6: out of range", THREE, c -> meeting(c, w[0], w[1], w[2], w[3]));
        }
        Check.Story oneDead = c -> {
            THREE.tell(c);
            c.pass(5);
        };
        Check.badArgument("6: the dead do not vote", oneDead, c -> meeting(c, 1, 1, 2, 1));
        Check.answers("6: the others do", oneDead, c -> meeting(c, 1, 1, 2, 0), 1);
        Check.answers("6: twelve votes", c -> {
            for (int i = 0; i < 12; i++) {
                c.miner(0, 0);
            }
        }, c -> meeting(c, 1, 1, 12, 0), 1);
    }

    private static void peg() {
        NuggetCamp camp = Check.camp(THREE);
        Check.due("7: first", camp.peg(0, 0, 3), 0);
        Check.due("7: next to it", camp.peg(0, 3, 1), 1);
        Check.due("7: at the end", camp.peg(1, 37, 3), 2);
        Check.due("7: the last cell between", camp.peg(1, 36, 1), 3);
        int[] due = {1, 37, 3, 1, 0, 7};
        for (int what = 0; what < due.length; what++) {
            Check.due("24: ofClaim " + what, camp.ofClaim(2, what), due[what]);
        }
        int[] holders = {0, 0, 0, 1, NuggetCamp.NONE};
        for (int cell = 0; cell < holders.length; cell++) {
            Check.due("23: holds " + cell, camp.holds(cell), holders[cell]);
        }
        Check.due("23: holds 39", camp.holds(39), 2);
        Check.due("23: holds 35", camp.holds(35), NuggetCamp.NONE);
        Check.answers("7: it keeps the days of its code", c -> {
            THREE.tell(c);
            c.pass(3);
            c.peg(0, 0, 3);
            c.meet(1, 2, 1, 0);
            c.pass(5);
        }, c -> c.ofClaim(0, 2) * 1000 + c.ofClaim(0, 3) * 100 + c.ofClaim(0, 4) * 10
                + c.ofClaim(0, 5), 3137);
        Check.answers("7: a lapsed claim's cells are free", c -> {
            THREE.tell(c);
            c.peg(0, 0, 3);
            c.pass(8);
        }, c -> c.peg(1, 2, 2), 1);
        Check.answers("7: ten cells", c -> {
            THREE.tell(c);
            c.meet(10, 1, 1, 0);
        }, c -> c.peg(0, 30, 10), 0);
        Check.answers("7: ground that was worked today", c -> {
            THREE.tell(c);
            c.work(1, 0, PAN);
        }, c -> c.peg(0, 0, 1), 0);
    }

    private static void pegRefused() {
        Check.Story pegged = c -> {
            THREE.tell(c);
            c.peg(0, 5, 2);
        };
        Check.badIndex("7: miner -1", THREE, c -> c.peg(-1, 0, 1));
        Check.badIndex("7: miner 3", THREE, c -> c.peg(3, 0, 1));
        Check.badIndex("7: cell -1", THREE, c -> c.peg(0, -1, 1));
        Check.badIndex("7: cell 40", THREE, c -> c.peg(0, 40, 1));
        Check.badIndex("7: beyond 39", THREE, c -> c.peg(0, 39, 2));
        Check.badIndex("7: beyond 39 ahead of many", THREE, c -> c.peg(0, 30, 11));
        Check.badIndex("7: far beyond 39", THREE, c -> c.peg(0, 39, Integer.MAX_VALUE));
        Check.badIndex("7: cell ahead of many", THREE, c -> c.peg(0, 40, 0));
        Check.badArgument("7: many 0", THREE, c -> c.peg(0, 39, 0));
        Check.badArgument("7: many 11", THREE, c -> c.peg(0, 29, 11));
        Check.badArgument("7: least many", THREE, c -> c.peg(0, 0, Integer.MIN_VALUE));
        Check.badArgument("7: many ahead of state", pegged, c -> c.peg(0, 5, 0));
        Check.badState("7: above the code's size", THREE, c -> c.peg(0, 0, 4));
        Check.badState("7: the same cells", pegged, c -> c.peg(0, 5, 2));
        Check.badState("7: another's lower end", pegged, c -> c.peg(1, 6, 2));
        Check.badState("7: another's upper end", pegged, c -> c.peg(1, 3, 3));
        Check.badState("7: a dead one", c -> {
            THREE.tell(c);
            c.pass(5);
        }, c -> c.peg(2, 0, 1));
        Check.badState("7: thirty", c -> {
            THREE.tell(c);
            for (int i = 0; i < 30; i++) {
                c.peg(0, i, 1);
            }
        }, c -> c.peg(0, 35, 1));
        Check.Story thirtyLapsed = c -> {
            THREE.tell(c);
            for (int i = 0; i < 29; i++) {
                c.peg(0, i, 1);
            }
            c.pass(8);
        };
        Check.answers("7: the thirtieth", thirtyLapsed, c -> c.peg(0, 0, 1), 29);
        Check.badState("7: the lapsed count", c -> {
            thirtyLapsed.tell(c);
            c.peg(0, 0, 1);
        }, c -> c.peg(0, 1, 1));
    }

    private static void questions() {
        Check.Story pegged = c -> {
            THREE.tell(c);
            c.peg(1, 5, 2);
        };
        Check.badIndex("23: cell -1", pegged, c -> c.holds(-1));
        Check.badIndex("23: cell 40", pegged, c -> c.holds(40));
        Check.badIndex("24: claim -1", pegged, c -> c.ofClaim(-1, 0));
        Check.badIndex("24: claim 1", pegged, c -> c.ofClaim(1, 0));
        Check.badIndex("24: claim ahead of what", pegged, c -> c.ofClaim(1, 6));
        Check.badArgument("24: what -1", pegged, c -> c.ofClaim(0, -1));
        Check.badArgument("24: what 6", pegged, c -> c.ofClaim(0, 6));
        Check.answers("24: a lapsed one keeps its miner", c -> {
            pegged.tell(c);
            c.pass(9);
        }, c -> c.ofClaim(0, 0), 1);
        Check.answers("24: worked by its miner", c -> {
            pegged.tell(c);
            c.pass(4);
            c.work(1, 6, PAN);
        }, c -> c.ofClaim(0, 4), 4);
        Check.answers("24: not by another one's try", c -> {
            pegged.tell(c);
            c.pass(4);
            Check.thrownBy(c, x -> x.work(0, 6, PAN));
        }, c -> c.ofClaim(0, 4), 0);
        Check.answers("23: the newer claim of two on the cell", c -> {
            pegged.tell(c);
            c.pass(8);
            c.peg(0, 4, 3);
        }, c -> c.holds(5), 1);
    }

    public static void main(String[] args) {
        meet();
        peg();
        pegRefused();
        questions();
        Check.end();
    }
}
