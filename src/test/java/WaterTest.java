/** Promises 8 and 26, and the inches of promise 25: right, gets, ofMiner. */
final class WaterTest {
    private static final Check.Story THREE = c -> {
        c.miner(0, 0);
        c.miner(100, 0);
        c.miner(100, 0);
    };

    private static final Check.Story FOUR_RIGHTS = c -> {
        THREE.tell(c);
        c.right(0, 60);
        c.right(1, 30);
        c.right(2, 30);
        c.right(1, 5);
    };

    private static void check(String what, Check.Story story, int... due) {
        for (int i = 0; i < due.length; i++) {
            int right = i;
            Check.answers(what + ", right " + i, story, c -> c.gets(right), due[i]);
        }
    }

    private static void water() {
        check("26: by rising numbers", FOUR_RIGHTS, 60, 30, 10, 0);
        check("26: more flow", c -> {
            FOUR_RIGHTS.tell(c);
            c.flow(123);
        }, 60, 30, 30, 3);
        check("26: no flow", c -> {
            FOUR_RIGHTS.tell(c);
            c.flow(0);
        }, 0, 0, 0, 0);
        check("26: the dead are left out", c -> {
            FOUR_RIGHTS.tell(c);
            c.pass(5);
        }, 0, 30, 30, 5);
        check("26: the dying are not", c -> {
            FOUR_RIGHTS.tell(c);
            c.pass(4);
        }, 60, 30, 10, 0);
        check("26: the most", c -> {
            THREE.tell(c);
            c.right(0, 200);
            c.flow(1000);
        }, 200);
        Check.answers("25: inches together", c -> {
            FOUR_RIGHTS.tell(c);
            c.flow(123);
        }, c -> c.ofMiner(1, 5), 33);
        Check.answers("25: of another one", FOUR_RIGHTS, c -> c.ofMiner(2, 5), 10);
        Check.answers("25: a dead one's", c -> {
            FOUR_RIGHTS.tell(c);
            c.pass(5);
        }, c -> c.ofMiner(0, 5), 0);
        Check.answers("8: a right counts at once", c -> {
            THREE.tell(c);
            c.right(1, 1);
            c.right(1, 1);
        }, c -> c.work(1, 0, NuggetCamp.PAN) + c.ofMiner(1, 5), 2);
    }

    private static void right() {
        Check.Story twenty = c -> {
            THREE.tell(c);
            for (int i = 0; i < 20; i++) {
                Check.due("8: number", c.right(i % 3, 200), i);
            }
        };
        Check.badState("8: twenty", twenty, c -> c.right(1, 1));
        Check.badArgument("8: inches ahead of state", twenty, c -> c.right(1, 0));
        Check.badState("8: the dead's rights count", c -> {
            twenty.tell(c);
            c.pass(5);
        }, c -> c.right(1, 1));
        Check.badState("8: a dead one", c -> {
            THREE.tell(c);
            c.pass(5);
        }, c -> c.right(0, 1));
        Check.badIndex("8: miner -1", THREE, c -> c.right(-1, 1));
        Check.badIndex("8: miner 3", THREE, c -> c.right(3, 1));
        Check.badIndex("8: miner ahead of inches", THREE, c -> c.right(3, 0));
        Check.badArgument("8: inches 0", THREE, c -> c.right(0, 0));
        Check.badArgument("8: inches 201", THREE, c -> c.right(0, 201));
        Check.badIndex("26: right -1", FOUR_RIGHTS, c -> c.gets(-1));
        Check.badIndex("26: right 4", FOUR_RIGHTS, c -> c.gets(4));
        Check.badIndex("26: largest", FOUR_RIGHTS, c -> c.gets(Integer.MAX_VALUE));
    }

    public static void main(String[] args) {
        water();
        right();
        Check.end();
    }
}
