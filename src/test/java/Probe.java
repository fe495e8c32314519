/**
 * All that can be found out about a camp by calls, those things too that no question tells: who worked
 * today, when freights come, who salted, which suits were brought. Each part asks a camp of its own, as
 * most of the calls change it.
 */
final class Probe {
    private static final int MINERS = 12;
    private static final int CLAIMS = 30;
    private static final int RIGHTS = 20;
    private static final int CELLS = 40;
    private static final int[] SOME_CELLS = {0, 1, 5, 20, 38, 39};

    private final Check.Story story;
    private final StringBuilder told = new StringBuilder();
    private NuggetCamp camp;

    private Probe(Check.Story story) {
        this.story = story;
    }

    static String of(Check.Story story) {
        Probe probe = new Probe(story);
        probe.begin("cells");
        probe.cells();
        probe.begin("miners");
        probe.miners();
        probe.begin("claims");
        probe.claims();
        probe.begin("ground");
        probe.ground();
        probe.begin("work");
        probe.work();
        probe.begin("days");
        probe.days();
        probe.begin("suits");
        probe.suits();
        probe.begin("backers");
        probe.backers();
        return probe.told.toString();
    }

    private void begin(String part) {
        camp = Check.camp(story);
        told.append('\n').append(part);
    }

    private boolean ask(Check.Question call) {
        long[] answer = new long[1];
        String thrown = Check.thrownBy(camp, c -> answer[0] = call.ask(c));
        boolean answered = thrown.equals("nothing");
        told.append(' ').append(answered ? String.valueOf(answer[0]) : thrown);
        return answered;
    }

    private void cells() {
        ask(c -> c.day());
        for (int cell = 0; cell < CELLS; cell++) {
            int asked = cell;
            ask(c -> c.sample(asked));
            ask(c -> c.holds(asked));
            ask(c -> c.belief(asked));
        }
        for (int what = 0; what < 6; what++) {
            int asked = what;
            ask(c -> c.gold(asked));
            ask(c -> c.camp(asked));
        }
    }

    private void miners() {
        for (int i = 0; i < MINERS * 8; i++) {
            int asked = i;
            ask(c -> c.ofMiner(asked / 8, asked % 8));
        }
        for (int right = 0; right < RIGHTS; right++) {
            int asked = right;
            ask(c -> c.gets(asked));
        }
    }

    private void claims() {
        for (int i = 0; i < CLAIMS * 6; i++) {
            int asked = i;
            ask(c -> c.ofClaim(asked / 6, asked % 6));
        }
        for (int claim = 0; claim < CLAIMS; claim++) {
            int asked = claim;
            ask(c -> c.plan(asked, NuggetCamp.MONITOR));
        }
    }

    /** Also tells the flow and the rate, and whether a miner can come. */
    private void ground() {
        for (int cell = 0; cell < CELLS; cell++) {
            int asked = cell;
            ask(c -> c.ground(asked, 0, 0));
        }
        ask(c -> c.flow(0));
        ask(c -> c.rate(1));
        ask(c -> c.miner(0, 0));
    }

    private void work() {
        for (int miner = 0; miner < MINERS; miner++) {
            for (int cell : SOME_CELLS) {
                int worker = miner;
                ask(c -> c.work(worker, cell, NuggetCamp.PAN));
            }
        }
    }

    private void days() {
        for (int i = 0; i < 30; i++) {
            ask(c -> c.pass(1));
            ask(c -> c.camp(2));
            ask(c -> c.camp(5));
            ask(c -> c.ofClaim(0, 3));
        }
        while (ask(c -> c.pass(200))) {
            ask(c -> c.camp(4));
        }
    }

    private void suits() {
        for (int claim = 0; claim < CLAIMS; claim++) {
            int asked = claim;
            ask(c -> c.suit(asked));
            ask(c -> c.trade(asked, 0, 0));
            ask(c -> c.suit(asked));
            ask(c -> c.trade(asked, 1, 0));
            ask(c -> c.suit(asked));
        }
    }

    private void backers() {
        for (int i = 0; i < MINERS * MINERS; i++) {
            int asked = i;
            ask(c -> c.end(asked / MINERS, asked % MINERS));
        }
    }
}
