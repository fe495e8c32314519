/** The boundary cases of codes and claims: promises 6, 7, 23 and 24, and the terms on them. */
final class ClaimEdges {
    private static final int PAN = NuggetCamp.PAN;
    private static final int NONE = NuggetCamp.NONE;
    private static final Check.Story NEW = c -> { };

    /** Two miners who live, and one who is dead on day 5. */
    private static final Check.Story THREE = c -> {
        c.miner(1000, 100);
        c.miner(1000, 100);
        c.miner(0, 100);
    };

    private ClaimEdges() {
    }

    static void tell() {
        meet();
        meetRefused();
        codes();
        peg();
        pegRefused();
        pegHeld();
        claims();
        worked();
        holds();
        ofClaim();
    }

    private static Check.Story miners(int many) {
        return c -> {
            for (int i = 0; i < many; i++) {
                c.miner(0, 0);
            }
        };
    }

    private static long meeting(NuggetCamp camp, int size, int days, int yeses, int noes) {
        return camp.meet(size, days, yeses, noes) ? 1 : 0;
    }

    /** The size and the days of the code, as one number. */
    private static long code(NuggetCamp camp) {
        return camp.camp(0) * 1000L + camp.camp(1);
    }

    private static Check.Story underSize(int size) {
        return Check.then(THREE, c -> c.meet(size, 7, 2, 0));
    }

    private static void meet() {
        Book.says(6, "Lets a meeting vote on another code.");
        Check.answers("voted for", THREE, c -> meeting(c, 10, 100, 3, 0) * 100000 + code(c), 110100);
        Check.answers("voted down", THREE, c -> meeting(c, 10, 100, 0, 3) * 100000 + code(c), 3007);

        Book.says(6, "- `size`: 1 to 10");
        Range.arguments(THREE, (c, size) -> meeting(c, size, 1, 1, 0), 1, 10);
        Range.arguments(THREE, (c, size) -> meeting(c, size, 1, 0, 1), 1, 10);
        Check.answers("the least", underSize(1), c -> c.camp(0), 1);
        Check.answers("the largest", underSize(10), c -> c.camp(0), 10);

        Book.says(6, "- `days`: 1 to 100");
        Range.arguments(THREE, (c, days) -> meeting(c, 1, days, 1, 0), 1, 100);
        Check.answers("the least", THREE, c -> meeting(c, 2, 1, 1, 0) * 100000 + code(c), 102001);
        Check.answers("the most", THREE, c -> meeting(c, 2, 100, 1, 0) * 100000 + code(c), 102100);

        Book.says(6, "- `yeses`: 0 to 12");
        Range.arguments(miners(12), (c, yeses) -> meeting(c, 1, 1, yeses, 0), 0, 12);

        Book.says(6, "- `noes`: 0 to 12");
        Range.arguments(miners(12), (c, noes) -> meeting(c, 1, 1, 0, noes), 0, 12);

        Book.says(6, "Returns whether it is the code then.");
        Check.answers("it is", miners(12), c -> meeting(c, 1, 1, 7, 5), 1);
        Check.answers("it is not", miners(12), c -> meeting(c, 1, 1, 6, 6), 0);
    }

    private static void meetRefused() {
        Book.says(6, "Throws `IllegalArgumentException` if size, days, yeses or noes is out of range,"
                + " or both, together, are more than the miners that are not DEAD");
        Check.badArgument("size", THREE, c -> meeting(c, 11, 100, 3, 0));
        Check.badArgument("days", THREE, c -> meeting(c, 10, 101, 3, 0));
        Check.badArgument("yeses, though both together are few", THREE,
                c -> meeting(c, 10, 100, -1, 3));
        Check.badArgument("noes, though both together are few", THREE,
                c -> meeting(c, 10, 100, 3, -1));
        Check.badArgument("both, whose sum is beyond the largest int", THREE,
                c -> meeting(c, 1, 1, Integer.MAX_VALUE, Integer.MAX_VALUE));
        Check.takes("all yeses", THREE, c -> meeting(c, 1, 1, 3, 0));
        Check.badArgument("a yes too many", THREE, c -> meeting(c, 1, 1, 4, 0));
        Check.takes("all noes", THREE, c -> meeting(c, 1, 1, 0, 3));
        Check.badArgument("a no too many", THREE, c -> meeting(c, 1, 1, 0, 4));
        Check.takes("all, together", THREE, c -> meeting(c, 1, 1, 2, 1));
        Check.badArgument("one too many, together", THREE, c -> meeting(c, 1, 1, 2, 2));
        Check.takes("nobody, without miners", NEW, c -> meeting(c, 1, 1, 0, 0));
        Check.badArgument("a yes, without miners", NEW, c -> meeting(c, 1, 1, 1, 0));
        Check.badArgument("a no, without miners", NEW, c -> meeting(c, 1, 1, 0, 1));
        Check.takes("twelve", miners(12), c -> meeting(c, 1, 1, 6, 6));
        Check.badArgument("thirteen", miners(12), c -> meeting(c, 1, 1, 12, 1));
        Check.takes("on the day before a death", Check.then(THREE, c -> c.pass(4)),
                c -> meeting(c, 1, 1, 2, 1));
        Check.badArgument("with a dead one", Check.then(THREE, c -> c.pass(5)),
                c -> meeting(c, 1, 1, 2, 1));
        Check.takes("without the dead one", Check.then(THREE, c -> c.pass(5)),
                c -> meeting(c, 1, 1, 1, 1));
        Check.badArgument("all are dead", Check.then(miners(12), c -> c.pass(5)),
                c -> meeting(c, 1, 1, 1, 0));
    }

    private static void codes() {
        Book.says(Book.TERMS, "A code has a size, 1 to 10, and days of work, 1 to 100");
        Check.answers("the least", THREE, c -> meeting(c, 1, 1, 1, 0) * 100000 + code(c), 101001);
        Check.answers("the largest", THREE, c -> meeting(c, 10, 100, 1, 0) * 100000 + code(c), 110100);
        Check.badArgument("below them", THREE, c -> meeting(c, 0, 0, 1, 0));
        Check.badArgument("above them", THREE, c -> meeting(c, 11, 101, 1, 0));

        Book.says(Book.TERMS, "the code is 3 and 7 at first");
        Check.answers("asked", NEW, c -> code(c), 3007);
        Check.takes("a claim of 3", THREE, c -> c.peg(0, 0, 3));
        Check.badState("a claim of 4", THREE, c -> c.peg(0, 0, 4));
        Check.answers("days of work", THREE, c -> c.peg(0, 0, 3) + c.ofClaim(0, 5), 7);

        Book.says(Book.TERMS, "it is the code from then on, if there are more yeses than noes");
        int[][] rows = {{0, 0, 0}, {1, 0, 1}, {0, 1, 0}, {1, 1, 0}, {2, 1, 1}, {1, 2, 0}, {6, 6, 0},
            {7, 5, 1}, {5, 7, 0}, {12, 0, 1}, {0, 12, 0}};
        for (int[] row : rows) {
            Check.answers(row[0] + " to " + row[1], miners(12),
                    c -> meeting(c, 10, 100, row[0], row[1]), row[2]);
            Check.answers(row[0] + " to " + row[1] + ", the code", Check.then(miners(12),
                    c -> c.meet(10, 100, row[0], row[1])), c -> code(c), row[2] > 0 ? 10100 : 3007);
        }
        Check.answers("from then on", Check.then(THREE, c -> {
            c.meet(10, 100, 1, 0);
            c.pass(200);
            c.meet(1, 1, 1, 1);
        }), c -> code(c), 10100);
    }

    private static void peg() {
        Book.says(7, "Pegs a claim.");
        Check.answers("of one cell", THREE, c -> c.peg(0, 0, 1) + c.ofClaim(0, 2), 1);
        Check.answers("on the last day", c -> {
            Check.toDay(c, 5000);
            THREE.tell(c);
            c.peg(0, 0, 1);
        }, c -> c.ofClaim(0, 4), 5000);

        Book.says(7, "- `miner`: a miner");
        Range.indexes(miners(2), (c, miner) -> c.peg(miner, 0, 1), 0, 1);
        Range.indexes(miners(12), (c, miner) -> c.peg(miner, 0, 1), 0, 11);

        Book.says(7, "- `cell`: its uppermost CELL");
        Range.indexes(THREE, (c, cell) -> c.peg(0, cell, 1), 0, 39);
        Check.answers("its uppermost one", Check.then(THREE, c -> c.peg(0, 37, 3)),
                c -> c.ofClaim(0, 1), 37);

        Book.says(7, "- `many`: how many CELLS, 1 to 10");
        Range.allowed(underSize(10), (c, many) -> c.peg(0, 0, many), 1, 10);
        Range.badArguments(underSize(10), (c, many) -> c.peg(0, 0, many), Integer.MIN_VALUE, -1, 0,
                11, 40);
        Check.answers("the most", Check.then(underSize(10), c -> c.peg(0, 0, 10)),
                c -> c.holds(9) * 10 + c.holds(10), NONE);

        Book.says(7, "Returns its number.");
        Check.answers("the first", THREE, c -> c.peg(0, 0, 1), 0);
        Check.answers("the last", pegged(29, 1), c -> c.peg(0, 39, 1), 29);
    }

    /** Claims of one cell each, from the cell 0 on. */
    private static Check.Story pegged(int many, int miner) {
        return Check.then(THREE, c -> {
            for (int i = 0; i < many; i++) {
                c.peg(miner, i, 1);
            }
        });
    }

    private static void pegRefused() {
        Book.says(7, "Throws `IndexOutOfBoundsException` if there is no such miner or CELL, or one of"
                + " the CELLS would be beyond 39");
        Range.badIndexes(THREE, (c, miner) -> c.peg(miner, 0, 1), -1, 3);
        Range.badIndexes(THREE, (c, cell) -> c.peg(0, cell, 1), -1, 40);
        Check.takes("just to 39", THREE, c -> c.peg(0, 37, 3));
        Check.badIndex("to 40", THREE, c -> c.peg(0, 38, 3));
        Check.takes("39 alone", THREE, c -> c.peg(0, 39, 1));
        Check.badIndex("39 and 40", THREE, c -> c.peg(0, 39, 2));
        Check.takes("ten, just to 39", underSize(10), c -> c.peg(0, 30, 10));
        Check.badIndex("ten, to 40", underSize(10), c -> c.peg(0, 31, 10));
        Check.badIndex("from 0, beyond 39", THREE, c -> c.peg(0, 0, 41));
        Check.badArgument("from 0, just to 39", THREE, c -> c.peg(0, 0, 40));
        Range.badIndexes(THREE, (c, cell) -> c.peg(0, cell, Integer.MAX_VALUE), 0, 39);

        Book.says(7, "Throws `IllegalArgumentException` if many is out of range");
        Range.badArguments(THREE, (c, many) -> c.peg(0, 0, many), -1, 0, 11);
        Check.badArgument("none at 39", THREE, c -> c.peg(0, 39, 0));

        Book.says(7, "Throws `IllegalStateException` if the miner is DEAD, many is above the size of"
                + " the code, one of the CELLS is of a claim that is held, or there are 30");
        Check.takes("on the day before death", Check.then(THREE, c -> c.pass(4)),
                c -> c.peg(2, 0, 1));
        Check.badState("dead", Check.then(THREE, c -> c.pass(5)), c -> c.peg(2, 0, 1));
        Check.badState("above the size 1", underSize(1), c -> c.peg(0, 0, 2));
        Check.badState("above the size 9", underSize(9), c -> c.peg(0, 0, 10));
        Check.takes("the thirtieth", pegged(29, 1), c -> c.peg(0, 39, 1));
        Check.badState("one more", pegged(30, 1), c -> c.peg(0, 39, 1));
        Check.badState("one more, though all have lapsed", Check.then(pegged(30, 1), c -> c.pass(8)),
                c -> c.peg(0, 39, 1));
    }

    private static void pegHeld() {
        Book.says(Book.TERMS, "of at most as many CELLS as the size of the code");
        for (int size = 1; size <= 10; size++) {
            int many = size;
            Check.takes("as many as " + size, underSize(size), c -> c.peg(0, 0, many));
            if (size < 10) {
                Check.badState("more than " + size, underSize(size), c -> c.peg(0, 0, many + 1));
            }
        }

        Book.says(Book.TERMS, "none of which is of a claim that is held");
        Check.Story held = Check.then(THREE, c -> c.peg(1, 10, 3));
        Check.takes("just above it", held, c -> c.peg(0, 7, 3));
        Range.badStates(held, (c, cell) -> c.peg(0, cell, 3), 8, 9, 10, 11, 12);
        Range.badStates(held, (c, cell) -> c.peg(1, cell, 1), 10, 11, 12);
        Check.takes("just below it", held, c -> c.peg(0, 13, 3));
        Check.badState("round it", Check.then(held, c -> c.meet(10, 7, 1, 0)), c -> c.peg(0, 5, 10));
        Check.badState("on its last day", Check.then(held, c -> c.pass(7)), c -> c.peg(0, 12, 1));
        Check.takes("as it has lapsed", Check.then(held, c -> c.pass(8)), c -> c.peg(0, 10, 3));

        Book.says(Book.TERMS, "it keeps the days of work of the code of that day");
        Check.answers("another code on the same day", Check.then(held, c -> c.meet(1, 100, 1, 0)),
                c -> c.ofClaim(0, 5), 7);
        Check.answers("and it lapses by them", Check.then(held, c -> {
            c.meet(1, 100, 1, 0);
            c.pass(8);
        }), c -> c.ofClaim(0, 3), 0);
        Check.answers("shorter ones do not matter either", Check.then(held, c -> {
            c.meet(1, 1, 1, 0);
            c.pass(7);
        }), c -> c.ofClaim(0, 3), 1);
        Check.answers("nor a smaller size", Check.then(held, c -> c.meet(1, 1, 1, 0)),
                c -> c.holds(12), 0);
        Check.answers("a later code does not count as work", Check.then(held, c -> {
            c.pass(5);
            c.meet(1, 100, 1, 0);
        }), c -> c.ofClaim(0, 4) * 1000 + c.ofClaim(0, 5), 7);
    }

    private static void claims() {
        Book.says(Book.TERMS, "Claims are numbered from 0, at most 30");
        for (int number : new int[] {0, 1, 28, 29}) {
            Check.answers("number", pegged(number, 1), c -> c.peg(0, 39, 1), number);
        }
        Check.badState("one more", pegged(30, 1), c -> c.peg(0, 39, 1));
        Check.badIndex("none yet", THREE, c -> c.ofClaim(0, 0));
        Check.answers("a refused one takes no number", Check.then(THREE, c ->
                Check.thrownBy(c, x -> x.peg(0, 0, 4))), c -> c.peg(0, 0, 3), 0);

        Book.says(Book.TERMS, "a claim is some CELLS one behind the other, a miner's, and is held or"
                + " has lapsed");
        Check.answers("a claim of a miner's who has another one", pegged(29, 1),
                c -> c.peg(1, 38, 2) + c.holds(39), 58);
        Check.answers("held", pegged(1, 1), c -> c.ofClaim(0, 3), 1);
        Check.answers("lapsed", Check.then(pegged(1, 1), c -> c.pass(8)), c -> c.ofClaim(0, 3), 0);
        Check.answers("lapsed for good", Check.then(pegged(1, 1), c -> {
            c.pass(8);
            c.work(1, 0, PAN);
            c.pass(1);
        }), c -> c.ofClaim(0, 3), 0);
    }

    private static Check.Story workedOn(int day, int miner, int cell) {
        return Check.then(THREE, c -> {
            c.peg(0, 10, 3);
            c.pass(day);
            c.work(miner, cell, PAN);
        });
    }

    private static void worked() {
        Book.says(Book.TERMS, "It counts as worked on the day on which it is pegged");
        Check.Story late = Check.then(THREE, c -> {
            c.pass(5);
            c.peg(0, 10, 3);
        });
        Check.answers("that day", late, c -> c.ofClaim(0, 4), 5);
        Check.answers("held", Check.then(late, c -> c.pass(7)), c -> c.ofClaim(0, 3), 1);
        Check.answers("lapsed", Check.then(late, c -> c.pass(8)), c -> c.ofClaim(0, 3), 0);

        Book.says(Book.TERMS, "and, as long as it is held, on each on which one of its CELLS is worked"
                + " by its miner");
        Check.answers("the cell above", workedOn(4, 0, 9), c -> c.ofClaim(0, 4), 0);
        Check.answers("its first cell", workedOn(4, 0, 10), c -> c.ofClaim(0, 4), 4);
        Check.answers("its last cell", workedOn(4, 0, 12), c -> c.ofClaim(0, 4), 4);
        Check.answers("the cell below", workedOn(4, 0, 13), c -> c.ofClaim(0, 4), 0);
        Check.answers("by another one, beside it", workedOn(4, 1, 13), c -> c.ofClaim(0, 4), 0);
        Check.answers("on its last day", workedOn(7, 0, 12), c -> c.ofClaim(0, 4), 7);
        Check.answers("then it is held as long again", Check.then(workedOn(7, 0, 12),
                c -> c.pass(7)), c -> c.ofClaim(0, 3), 1);
        Check.answers("and no longer", Check.then(workedOn(7, 0, 12), c -> c.pass(8)),
                c -> c.ofClaim(0, 3), 0);
        Check.answers("as it has lapsed, no more", workedOn(8, 0, 12), c -> c.ofClaim(0, 4), 0);
        Check.answers("another claim of the miner", Check.then(THREE, c -> {
            c.peg(0, 10, 3);
            c.peg(0, 13, 3);
            c.pass(4);
            c.work(0, 13, PAN);
        }), c -> c.ofClaim(0, 4) * 10 + c.ofClaim(1, 4), 4);
    }

    private static void holds() {
        Check.Story two = Check.then(THREE, c -> {
            c.peg(0, 0, 1);
            c.peg(1, 37, 3);
        });
        Book.says(23, "Returns the claim that is held of which a CELL is.");
        int[][] rows = {{0, 0}, {1, NONE}, {36, NONE}, {37, 1}, {39, 1}};
        for (int[] row : rows) {
            Check.answers("cell " + row[0], two, c -> c.holds(row[0]), row[1]);
        }
        Check.answers("the newer one on a lapsed one's cells", Check.then(two, c -> {
            c.pass(8);
            c.peg(0, 38, 2);
        }), c -> c.holds(37) * 100 + c.holds(38), -98);

        Book.says(23, "- `cell`: 0 to 39");
        Range.indexes(two, (c, cell) -> c.holds(cell), 0, 39);

        Book.says(23, "Returns the claim; NONE without one.");
        Check.answers("the first", two, c -> c.holds(0), 0);
        Check.answers("without one", NEW, c -> c.holds(39), -1);
        Check.answers("the last day of it", Check.then(two, c -> c.pass(7)), c -> c.holds(39), 1);
        Check.answers("lapsed", Check.then(two, c -> c.pass(8)), c -> c.holds(39), -1);
        Check.answers("the thirtieth", pegged(30, 1), c -> c.holds(29), 29);

        Book.says(23, "Throws `IndexOutOfBoundsException` if there is no such CELL");
        Range.badIndexes(NEW, (c, cell) -> c.holds(cell), -1, 40);
    }

    private static void ofClaim() {
        Check.Story two = Check.then(THREE, c -> {
            c.peg(0, 0, 1);
            c.meet(10, 100, 1, 0);
            c.peg(1, 30, 10);
        });
        Book.says(24, "Tells something of a claim.");
        Check.answers("of a lapsed one", Check.then(two, c -> c.pass(8)), c -> c.ofClaim(0, 3), 0);

        Book.says(24, "- `claim`: its number");
        Range.indexes(two, (c, claim) -> c.ofClaim(claim, 5), 0, 1);
        Range.indexes(pegged(30, 1), (c, claim) -> c.ofClaim(claim, 0), 0, 29);

        Book.says(24, "- `what`: 0 its miner, 1 its uppermost CELL, 2 how many CELLS, 3 whether it is"
                + " held (1 or 0), 4 the day on which it counts as worked, 5 its days of work");
        Range.arguments(two, (c, what) -> c.ofClaim(1, what), 0, 5);
        int[][] due = {{0, 0, 1, 1, 0, 7}, {1, 30, 10, 1, 0, 100}};
        for (int i = 0; i < 12; i++) {
            int asked = i;
            Check.answers("claim " + i / 6 + ", what " + i % 6, two,
                    c -> c.ofClaim(asked / 6, asked % 6), due[i / 6][i % 6]);
        }

        Book.says(24, "Returns the number.");
        Check.answers("the least", two, c -> c.ofClaim(0, 0), 0);
        Check.answers("the largest", c -> {
            Check.toDay(c, 5000);
            THREE.tell(c);
            c.peg(0, 0, 1);
        }, c -> c.ofClaim(0, 4), 5000);

        Book.says(24, "Throws `IndexOutOfBoundsException` if there is no such claim");
        Range.badIndexes(THREE, (c, claim) -> c.ofClaim(claim, 0), -1, 0, 29);
        Range.badIndexes(two, (c, claim) -> c.ofClaim(claim, 6), -1, 2);

        Book.says(24, "Throws `IllegalArgumentException` if what is out of range");
        Range.badArguments(two, (c, what) -> c.ofClaim(0, what), -1, 6);
    }
}
