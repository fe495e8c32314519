/** The boundary cases of rumours: promises 21 and 29, and the terms on them. */
final class RumourEdges {
    private static final Check.Story NEW = c -> { };

    private RumourEdges() {
    }

    static void tell() {
        rumour();
        belief();
    }

    private static Check.Story told(int cell, int belief) {
        return c -> c.rumour(cell, belief);
    }

    private static void rumour() {
        Book.says(21, "Tells a rumour.");
        Check.answers("on the last day", c -> {
            Check.toDay(c, 5000);
            c.rumour(0, 100);
        }, c -> c.belief(0), 100);

        Book.says(21, "- `cell`: 0 to 39");
        Range.indexes(NEW, (c, cell) -> c.rumour(cell, 1), 0, 39);

        Book.says(21, "- `belief`: 0 to 100");
        Range.arguments(NEW, (c, belief) -> c.rumour(0, belief), 0, 100);

        Book.says(21, "Returns the belief of the one before, 0 without one.");
        Check.answers("without one", NEW, c -> c.rumour(39, 100), 0);
        Check.answers("without one of this cell", told(38, 100), c -> c.rumour(39, 100), 0);
        Check.answers("the most", told(39, 100), c -> c.rumour(39, 0), 100);
        Check.answers("one that nobody believes", told(39, 0), c -> c.rumour(39, 7), 0);
        Check.answers("one that has faded", Check.then(told(39, 100), c -> c.pass(1)),
                c -> c.rumour(39, 0), 89);
        Check.answers("one that has faded away", Check.then(told(39, 1), c -> c.pass(1)),
                c -> c.rumour(39, 7), 0);

        Book.says(21, "Throws `IndexOutOfBoundsException` if there is no such CELL");
        Range.badIndexes(told(0, 100), (c, cell) -> c.rumour(cell, 50), -1, 40);

        Book.says(21, "Throws `IllegalArgumentException` if belief is out of range");
        Range.badArguments(told(0, 100), (c, belief) -> c.rumour(0, belief), -1, 101);
    }

    private static void belief() {
        Book.says(29, "Returns the belief of the rumour of a CELL.");
        Check.answers("the first cell", told(0, 100), c -> c.belief(0), 100);
        Check.answers("the last cell", told(39, 100), c -> c.belief(39), 100);

        Book.says(29, "- `cell`: 0 to 39");
        Range.indexes(told(39, 1), (c, cell) -> c.belief(cell), 0, 39);

        Book.says(29, "Returns the belief, 0 without one.");
        Check.answers("without one", told(38, 100), c -> c.belief(39), 0);
        Check.answers("of 0", told(39, 0), c -> c.belief(39), 0);
        Check.answers("of 1", told(39, 1), c -> c.belief(39), 1);

        Book.says(29, "Throws `IndexOutOfBoundsException` if there is no such CELL");
        Range.badIndexes(NEW, (c, cell) -> c.belief(cell), -1, 40);

        Book.says(Book.TERMS, "A rumour of a CELL has a belief, 0 to 100");
        Check.answers("0", Check.then(told(5, 9), told(5, 0)), c -> c.belief(5), 0);
        Check.answers("100", told(5, 100), c -> c.belief(5), 100);
        Check.badArgument("101", told(5, 100), c -> c.rumour(5, 101));

        Book.says(Book.TERMS, "one told of a CELL takes the place of one that it has");
        Check.answers("a lesser one", Check.then(told(5, 100), told(5, 1)), c -> c.belief(5), 1);
        Check.answers("a greater one", Check.then(told(5, 1), told(5, 100)), c -> c.belief(5), 100);
        Check.answers("the last one fades, not the first", Check.then(told(5, 100), c -> {
            c.rumour(5, 2);
            c.pass(1);
        }), c -> c.belief(5), 1);
        Check.answers("of another cell it does not", Check.then(told(5, 100), told(4, 1)),
                c -> c.belief(5), 100);
    }
}
