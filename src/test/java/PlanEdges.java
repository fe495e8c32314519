/** The boundary cases of plans: promises 30 and 31, and the terms on them. */
final class PlanEdges {
    private static final int NONE = NuggetCamp.NONE;
    private static final int PAN = NuggetCamp.PAN;
    private static final int MONITOR = NuggetCamp.MONITOR;

    private PlanEdges() {
    }

    static void tell() {
        plan();
        planRefused();
        planCell();
        planCellRefused();
        terms();
        orders();
    }

    /** A claim of so many cells, each with the same ground, and one cell below them with more. */
    private static Check.Story claim(int top, int many, int grains, int clay) {
        return c -> {
            for (int i = 0; i < many; i++) {
                c.ground(top + i, grains, clay);
            }
            if (top + many < 40) {
                c.ground(top + many, 100000, 0);
            }
            c.miner(1000, 0);
            c.meet(10, 7, 1, 0);
            c.peg(0, top, many);
        };
    }

    private static void plan() {
        Check.Story five = claim(0, 5, 100000, 0);
        Book.says(30, "Returns what the best plan would recover.");
        Check.answers("one cell", claim(39, 1, 100000, 0), c -> c.plan(0, MONITOR), 1000);
        Check.answers("five cells", five, c -> c.plan(0, MONITOR), 5000);

        Book.says(30, "- `claim`: its number");
        Check.Story thirty = Check.then(claim(0, 1, 20, 0), c -> {
            for (int i = 1; i < 30; i++) {
                c.peg(0, i, 1);
            }
        });
        Range.indexes(thirty, (c, claim) -> c.plan(claim, PAN), 0, 29);

        Book.says(30, "- `method`: PAN to MONITOR");
        Range.arguments(five, (c, method) -> c.plan(0, method), 0, 3);
        int[] due = {90, 350, 1600, 5000};
        for (int method = 0; method < 4; method++) {
            int by = method;
            Check.answers("by " + by, five, c -> c.plan(0, by), due[by]);
        }

        Book.says(30, "Returns the grains.");
        Check.answers("none", claim(0, 5, 0, 0), c -> c.plan(0, MONITOR), 0);
        Check.answers("the least", claim(0, 1, 2, 0), c -> c.plan(0, PAN), 1);
        Check.answers("the most", claim(35, 5, 100000, 0), c -> c.plan(0, MONITOR), 5000);
        Check.answers("the most clay", claim(35, 5, 100000, 9), c -> c.plan(0, MONITOR), 2300);
    }

    private static void planRefused() {
        Book.says(30, "Throws `IndexOutOfBoundsException` if there is no such claim");
        Range.badIndexes(claim(0, 5, 9, 0), (c, claim) -> c.plan(claim, PAN), -1, 1, 30);
        Check.badIndex("no claim yet", c -> { }, c -> c.plan(0, PAN));

        Book.says(30, "Throws `IllegalArgumentException` if method is out of range");
        Range.badArguments(claim(0, 5, 9, 0), (c, method) -> c.plan(0, method), -1, 4);

        Book.says(30, "Throws `IllegalStateException` if it has more than 5 CELLS");
        Check.takes("5", claim(0, 5, 9, 0), c -> c.plan(0, PAN));
        Check.badState("6", claim(0, 6, 9, 0), c -> c.plan(0, PAN));
        Check.badState("10", claim(0, 10, 9, 0), c -> c.plan(0, PAN));
        Check.badState("6 without grains", claim(34, 6, 0, 0), c -> c.plan(0, MONITOR));
    }

    private static void planCell() {
        Check.Story five = claim(35, 5, 100, 0);
        Book.says(31, "Returns a CELL of the best plan.");
        for (int place = 0; place < 5; place++) {
            int asked = place;
            Check.answers("place " + place, five, c -> c.planCell(0, PAN, asked), 35 + place);
        }

        Book.says(31, "- `claim`: its number");
        Check.Story two = Check.then(claim(0, 1, 9, 0), c -> c.peg(0, 38, 2));
        Range.indexes(two, (c, claim) -> c.planCell(claim, PAN, 0), 0, 1);

        Book.says(31, "- `method`: PAN to MONITOR");
        Range.arguments(five, (c, method) -> c.planCell(0, method, 0), 0, 3);

        Book.says(31, "- `place`: 0 for the first one");
        Check.answers("the first one", five, c -> c.planCell(0, PAN, 0), 35);
        Range.allowed(five, (c, place) -> c.planCell(0, PAN, place), 0, 5, Integer.MAX_VALUE);
        Range.badIndexes(five, (c, place) -> c.planCell(0, PAN, place), Integer.MIN_VALUE, -1);

        Book.says(31, "Returns the CELL; NONE if the claim has not so many.");
        Check.answers("the last one", five, c -> c.planCell(0, PAN, 4), 39);
        Check.answers("one behind it", five, c -> c.planCell(0, PAN, 5), -1);
        Check.answers("far behind it", five, c -> c.planCell(0, PAN, Integer.MAX_VALUE), -1);
        Check.answers("of one cell, the first", claim(0, 1, 9, 0), c -> c.planCell(0, PAN, 0), 0);
        Check.answers("of one cell, the second", claim(0, 1, 9, 0), c -> c.planCell(0, PAN, 1), NONE);
        Check.answers("of two, behind a plan of one", two, c -> c.planCell(0, PAN, 0)
                + c.planCell(1, PAN, 1), 39);
    }

    private static void planCellRefused() {
        Check.Story five = claim(0, 5, 9, 0);
        Book.says(31, "Throws `IndexOutOfBoundsException` if there is no such claim, or place is below 0");
        Range.badIndexes(five, (c, claim) -> c.planCell(claim, PAN, 0), -1, 1, 30);
        Range.badIndexes(five, (c, place) -> c.planCell(0, PAN, place), Integer.MIN_VALUE, -1);
        Check.badIndex("both", five, c -> c.planCell(1, PAN, -1));
        Check.badIndex("no claim yet", c -> { }, c -> c.planCell(0, PAN, 0));

        Book.says(31, "Throws `IllegalArgumentException` if method is out of range");
        Range.badArguments(five, (c, method) -> c.planCell(0, method, 0), -1, 4);
        Check.badArgument("behind the last place", five, c -> c.planCell(0, 4, 5));

        Book.says(31, "Throws `IllegalStateException` if it has more than 5 CELLS");
        Check.takes("5", five, c -> c.planCell(0, PAN, 4));
        Check.badState("6", claim(0, 6, 9, 0), c -> c.planCell(0, PAN, 0));
        Check.badState("10", claim(0, 10, 9, 0), c -> c.planCell(0, PAN, 9));
        Check.badState("6, behind the last place", claim(0, 6, 9, 0), c -> c.planCell(0, PAN, 6));
    }

    private static void terms() {
        Book.says(Book.TERMS, "A plan for a claim and a method is an order in which each of its CELLS, at"
                + " most 5, would be worked once by it, one behind the other, without regard to days,"
                + " water and miners");
        Check.Story five = claim(10, 5, 100, 0);
        Check.answers("without water", Check.then(five, c -> c.flow(0)), c -> c.plan(0, MONITOR),
                50 + 75 + 87 + 94 + 97);
        Check.answers("of one who worked today", Check.then(five, c -> c.work(0, 20, PAN)),
                c -> c.plan(0, PAN), 90);
        Check.answers("of a dead miner, lapsed", Check.then(five, c -> {
            c.miner(0, 0);
            c.peg(1, 20, 2);
            c.pass(5);
        }), c -> c.plan(1, PAN) + c.planCell(1, PAN, 1), 21);
        Check.answers("long lapsed", Check.then(five, c -> c.pass(200)), c -> c.plan(0, PAN), 90);
        Check.answers("once each", claim(10, 1, 100000, 0), c -> c.plan(0, MONITOR), 1000);
        Check.answers("each of them, also those without grains", c -> {
            c.ground(12, 100, 0);
            c.miner(0, 0);
            c.peg(0, 10, 3);
        }, c -> c.planCell(0, PAN, 2), 12);
        Check.answers("not the cell below", claim(10, 1, 0, 0), c -> c.plan(0, MONITOR), 0);
    }

    private static void orders() {
        Book.says(Book.TERMS, "the best one recovers the most, together");
        Check.Story rest = c -> {
            c.ground(0, 2000, 9);
            c.miner(0, 0);
            c.peg(0, 0, 2);
        };
        Check.answers("the rest of the upper one is dug in the lower one", rest,
                c -> c.plan(0, MONITOR), 460 + 770);
        Check.answers("more than the method takes", Check.then(c -> c.ground(1, 2000, 0), rest),
                c -> c.plan(0, MONITOR), 460 + 1000);

        Book.says(Book.TERMS, "of several it is the first one, as orders are compared by their CELLS, the"
                + " first one first, the lower CELL first");
        Check.Story empty = claim(20, 5, 0, 0);
        for (int place = 0; place < 5; place++) {
            int asked = place;
            Check.answers("all orders recover none, place " + place, empty,
                    c -> c.planCell(0, MONITOR, asked), 20 + place);
        }
        Check.answers("all orders recover the most", claim(20, 2, 100000, 0),
                c -> c.planCell(0, PAN, 0), 20);
    }
}
