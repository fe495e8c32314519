import java.util.Arrays;

/** The boundary cases of water: promises 8 and 26, and the terms on rights. */
final class WaterEdges {
    private static final Check.Story NEW = c -> { };

    /** Miner 0 is dead on day 5. */
    private static final Check.Story THREE = c -> {
        c.miner(0, 0);
        c.miner(1000, 0);
        c.miner(1000, 0);
    };

    private WaterEdges() {
    }

    static void tell() {
        right();
        rightRefused();
        gets();
        numbers();
        shares();
    }

    private static Check.Story rights(int... inches) {
        return Check.then(THREE, c -> {
            for (int i = 0; i < inches.length; i++) {
                c.right(i % 3, inches[i]);
            }
        });
    }

    private static Check.Story twenty(int inches) {
        int[] all = new int[20];
        Arrays.fill(all, inches);
        return rights(all);
    }

    private static void right() {
        Book.says(8, "Takes a right.");
        Check.answers("at once", rights(100), c -> c.gets(0), 100);
        Check.answers("on the last day", c -> {
            Check.toDay(c, 5000);
            THREE.tell(c);
            c.right(0, 1);
        }, c -> c.gets(0), 1);

        Book.says(8, "- `miner`: a miner");
        Range.indexes(THREE, (c, miner) -> c.right(miner, 1), 0, 2);

        Book.says(8, "- `inches`: 1 to 200");
        Range.arguments(THREE, (c, inches) -> c.right(1, inches), 1, 200);
        Check.answers("the least", rights(1), c -> c.gets(0), 1);
        Check.answers("the most", Check.then(rights(200), c -> c.flow(201)), c -> c.gets(0), 200);

        Book.says(8, "Returns its number.");
        Check.answers("the first", THREE, c -> c.right(0, 1), 0);
        Check.answers("the next, another miner's", rights(1), c -> c.right(1, 1), 1);
        Check.answers("the next, the same miner's", rights(1), c -> c.right(0, 1), 1);
    }

    private static void rightRefused() {
        Check.Story nineteen = rights(5, 5, 5, 5, 5, 5, 5, 5, 5, 5, 5, 5, 5, 5, 5, 5, 5, 5, 5);
        Book.says(8, "Throws `IndexOutOfBoundsException` if there is no such miner");
        Range.badIndexes(THREE, (c, miner) -> c.right(miner, 1), -1, 3);
        Check.badIndex("no miner yet", NEW, c -> c.right(0, 1));

        Book.says(8, "Throws `IllegalArgumentException` if inches is out of range");
        Range.badArguments(THREE, (c, inches) -> c.right(0, inches), -1, 0, 201);

        Book.says(8, "Throws `IllegalStateException` if the miner is DEAD, or there are 20");
        Check.takes("on the day before death", Check.then(THREE, c -> c.pass(4)),
                c -> c.right(0, 1));
        Check.badState("dead", Check.then(THREE, c -> c.pass(5)), c -> c.right(0, 1));
        Check.answers("the twentieth", nineteen, c -> c.right(1, 1), 19);
        Check.badState("one more", twenty(5), c -> c.right(1, 1));
        Check.badState("one more, though a miner of seven is dead",
                Check.then(twenty(5), c -> c.pass(5)), c -> c.right(1, 1));
    }

    private static void gets() {
        Book.says(26, "Returns the inches that a right gets today.");
        Check.answers("today", Check.then(rights(100), c -> c.flow(99)), c -> c.gets(0), 99);
        Check.answers("on another day", Check.then(rights(1, 100), c -> c.pass(5)),
                c -> c.gets(1), 100);

        Book.says(26, "- `right`: its number");
        Range.indexes(rights(1, 1), (c, right) -> c.gets(right), 0, 1);
        Range.indexes(twenty(5), (c, right) -> c.gets(right), 0, 19);

        Book.says(26, "Returns the inches.");
        Check.answers("none", Check.then(rights(1), c -> c.flow(0)), c -> c.gets(0), 0);
        Check.answers("the most", Check.then(rights(200), c -> c.flow(1000)), c -> c.gets(0), 200);

        Book.says(26, "Throws `IndexOutOfBoundsException` if there is no such right");
        Range.badIndexes(THREE, (c, right) -> c.gets(right), -1, 0, 1);
        Range.badIndexes(twenty(5), (c, right) -> c.gets(right), -1, 20);
    }

    private static void numbers() {
        Book.says(Book.TERMS, "Rights are numbered from 0, at most 20, in the order in which they were"
                + " taken");
        NuggetCamp camp = Check.camp(THREE);
        for (int i = 0; i < 20; i++) {
            Check.due("number", camp.right(2 - i % 3, 1 + i), i);
        }
        camp.flow(1000);
        for (int i = 0; i < 20; i++) {
            Check.due("right " + i, camp.gets(i), 1 + i);
        }
        Check.badState("one more", twenty(200), c -> c.right(0, 1));
    }

    private static void due(String what, Check.Story story, int... inches) {
        for (int i = 0; i < inches.length; i++) {
            int right = i;
            Check.answers(what + ", right " + i, story, c -> c.gets(right), inches[i]);
        }
    }

    private static void shares() {
        Book.says(Book.TERMS, "On each day, now, rights by rising numbers, those of DEAD miners left"
                + " out, get their inches, or what is left of the FLOW, if that is less.");
        due("just enough", rights(60, 40), 60, 40);
        due("one too many", rights(60, 41), 60, 40);
        due("nothing is left", rights(60, 40, 1), 60, 40, 0);
        due("the first takes all", rights(100, 1), 100, 0);
        due("the first wants more", rights(101, 1), 100, 0);
        due("one is left", rights(99, 1, 1), 99, 1, 0);
        due("no flow", Check.then(rights(1, 200), c -> c.flow(0)), 0, 0);
        due("a flow of one", Check.then(rights(1, 200), c -> c.flow(1)), 1, 0);
        due("less flow today", Check.then(rights(60, 40), c -> c.flow(61)), 60, 1);
        due("the dying", Check.then(rights(60, 60, 60), c -> c.pass(4)), 60, 40, 0);
        due("the dead", Check.then(rights(60, 60, 60), c -> c.pass(5)), 0, 60, 40);
        due("five of the most", Check.then(twenty(200), c -> c.flow(1000)), 200, 200, 200, 200, 200,
                0, 0);
        due("one less", Check.then(twenty(200), c -> c.flow(999)), 200, 200, 200, 200, 199, 0);
        Check.answers("all of one miner's", Check.then(THREE, c -> {
            for (int i = 0; i < 20; i++) {
                c.right(1, 200);
            }
            c.flow(1000);
        }), c -> c.ofMiner(1, 5), 1000);
    }
}
