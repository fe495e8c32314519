/** Promises 21 and 29: rumour and belief. */
final class RumourTest {
    private static final Check.Story NEW = camp -> { };

    private static void fading() {
        NuggetCamp camp = new NuggetCamp();
        Check.due("21: none before", camp.rumour(0, 100), 0);
        camp.rumour(39, 1);
        Check.due("29: at once", camp.belief(0), 100);
        int due = 100;
        for (int day = 1; day <= 40; day++) {
            camp.pass(1);
            due = Math.max(0, due - (due / 10 + 1));
            Check.due("29: day " + day, camp.belief(0), due);
        }
        Check.due("29: the other one", camp.belief(39), 0);
        int[][] rows = {{100, 89}, {99, 89}, {50, 44}, {20, 17}, {19, 17}, {10, 8}, {9, 8}, {2, 1},
            {1, 0}, {0, 0}};
        for (int[] row : rows) {
            Check.answers("29: the day behind " + row[0], c -> {
                c.rumour(7, row[0]);
                c.pass(1);
            }, c -> c.belief(7), row[1]);
        }
        Check.answers("29: another cell has none", c -> c.rumour(7, 9), c -> c.belief(8), 0);
    }

    private static void rumour() {
        NuggetCamp camp = new NuggetCamp();
        camp.rumour(5, 60);
        Check.due("21: the one before", camp.rumour(5, 20), 60);
        Check.due("29: it takes its place", camp.belief(5), 20);
        camp.pass(1);
        Check.due("21: the faded one before", camp.rumour(5, 0), 17);
        Check.due("29: no belief", camp.belief(5), 0);
        Check.due("21: of no belief before", camp.rumour(5, 3), 0);
        Check.badIndex("21: cell -1", NEW, c -> c.rumour(-1, 0));
        Check.badIndex("21: cell 40", NEW, c -> c.rumour(40, 0));
        Check.badIndex("21: cell ahead of belief", NEW, c -> c.rumour(40, 101));
        Check.badArgument("21: belief -1", NEW, c -> c.rumour(0, -1));
        Check.badArgument("21: belief 101", NEW, c -> c.rumour(0, 101));
        Check.badIndex("29: cell -1", NEW, c -> c.belief(-1));
        Check.badIndex("29: cell 40", NEW, c -> c.belief(40));
    }

    public static void main(String[] args) {
        fading();
        rumour();
        Check.end();
    }
}
