import java.util.ArrayList;
import java.util.List;

/**
 * Long runs of calls with arguments of all kinds. What holds for all promises is looked at: only the
 * document's exceptions come, refused calls and questions change nothing, the same calls have the same
 * answers, and no gold comes or goes.
 */
final class LongRunTest {
    private static final int RUNS = 400;
    private static final int CALLS = 400;
    private static final int[] EDGES = {-1, 0, 1, 2, 9, 10, 11, 12, 20, 30, 39, 40, 100, 101, 200, 1000,
        1001, 5000, 10000, 100000, 100001, Integer.MAX_VALUE, Integer.MIN_VALUE};

    /** The calls by number, and the largest argument that each place of them is mostly given. */
    private static final int[][] USUAL = {{39, 5000, 9}, {300}, {200, 9999}, {3}, {10, 30, 6, 3},
        {7, 39, 4}, {7, 60}, {7, 39, 3}, {39}, {7, 39, 60}, {7, 9}, {7, 200}, {40}, {200, 300}, {7, 9},
        {7, 7, 40, 200}, {7, 7}, {9, 7, 200}, {9}, {39, 100}, {}, {39}, {9, 5}, {7, 7}, {9}, {4}, {5},
        {39}, {9, 3}, {9, 3, 5}};
    private static final int FIRST_QUESTION = 20;
    private static final int SAMPLE = 8;
    private static final String REFUSED =
            "IndexOutOfBoundsException IllegalArgumentException IllegalStateException";

    private static long seed;

    private LongRunTest() {
    }

    private static int below(int bound) {
        seed = seed * 6364136223846793005L + 1442695040888963407L;
        return (int) ((seed >>> 33) % bound);
    }

    private static int[] anyCall(int turn) {
        int kind = turn < 10 ? 0 : turn < 16 ? 2 : below(USUAL.length);
        int[] call = {kind, 0, 0, 0, 0};
        for (int i = 0; i < USUAL[kind].length; i++) {
            call[i + 1] = below(12) == 0 ? EDGES[below(EDGES.length)] : below(USUAL[kind][i] + 1);
        }
        return call;
    }

    private static String answer(NuggetCamp camp, int[] call) {
        String[] told = {""};
        String thrown = Check.thrownBy(camp, c -> {
            told[0] = String.valueOf(call[0] < FIRST_QUESTION ? doIt(c, call) : askIt(c, call));
            return 0;
        });
        return thrown.equals("nothing") ? told[0] : thrown;
    }

    private static long doIt(NuggetCamp c, int[] a) {
        switch (a[0]) {
            case 0: return c.ground(a[1], a[2], a[3]);
            case 1: return c.flow(a[1]);
            case 2: return c.miner(a[1], a[2]);
            case 3: return c.pass(a[1]);
            case 4: return c.meet(a[1], a[2], a[3], a[4]) ? 1 : 0;
            case 5: return c.peg(a[1], a[2], a[3]);
            case 6: return c.right(a[1], a[2]);
            case 7: return c.work(a[1], a[2], a[3]);
            case SAMPLE: return c.sample(a[1]);
            case 9: return c.salt(a[1], a[2], a[3]);
            case 10: return c.brass(a[1], a[2]);
            case 11: return c.sell(a[1], a[2]);
            case 12: return c.rate(a[1]);
            case 13: c.freight(a[1], a[2]); return 0;
            case 14: return c.buy(a[1], a[2]);
            case 15: c.back(a[1], a[2], a[3], a[4]); return 0;
            case 16: return c.end(a[1], a[2]);
            case 17: return c.trade(a[1], a[2], a[3]);
            case 18: return c.suit(a[1]);
            default: return c.rumour(a[1], a[2]);
        }
    }

    private static long askIt(NuggetCamp c, int[] a) {
        switch (a[0]) {
            case 20: return c.day();
            case 21: return c.holds(a[1]);
            case 22: return c.ofClaim(a[1], a[2]);
            case 23: return c.ofMiner(a[1], a[2]);
            case 24: return c.gets(a[1]);
            case 25: return c.gold(a[1]);
            case 26: return c.camp(a[1]);
            case 27: return c.belief(a[1]);
            case 28: return c.plan(a[1], a[2]);
            default: return c.planCell(a[1], a[2], a[3]);
        }
    }

    private static boolean isQuestion(int[] call) {
        return call[0] >= FIRST_QUESTION || call[0] == SAMPLE;
    }

    private static List<String> answers(NuggetCamp camp, List<int[]> calls) {
        List<String> told = new ArrayList<>();
        for (int[] call : calls) {
            told.add(answer(camp, call));
        }
        return told;
    }

    private static int[] lastQuestions(NuggetCamp camp) {
        int[] told = new int[105];
        int place = 0;
        for (int what = 0; what < 4; what++) {
            told[place++] = camp.gold(what);
        }
        for (int miner = 0; miner < 6; miner++) {
            for (int what = 0; what < 8; what++) {
                told[place++] = camp.ofMiner(miner, what);
            }
        }
        for (int cell = 0; cell < 40; cell++) {
            told[place++] = camp.holds(cell);
        }
        for (int what = 0; what < 6; what++) {
            told[place++] = camp.camp(what);
        }
        return told;
    }

    private static void same(String what, int[] got, int[] want) {
        for (int i = 0; i < want.length; i++) {
            Check.due(what + ", question " + i, got[i], want[i]);
        }
    }

    private static void run(int number) {
        List<int[]> calls = new ArrayList<>();
        for (int turn = 0; turn < CALLS; turn++) {
            calls.add(anyCall(turn));
        }
        NuggetCamp camp = new NuggetCamp();
        List<String> told = answers(camp, calls);
        List<int[]> taken = new ArrayList<>();
        List<String> toldOfTaken = new ArrayList<>();
        int gold = 0;
        for (int i = 0; i < CALLS; i++) {
            int[] call = calls.get(i);
            String got = told.get(i);
            boolean isNumber = got.matches("-?[0-9]+");
            Check.due("run " + number + ": call " + i + " of " + call[0] + " threw " + got,
                    isNumber || REFUSED.contains(got), true);
            if (isNumber && !isQuestion(call)) {
                taken.add(call);
                toldOfTaken.add(got);
                gold += call[0] == 0 ? call[2] - Integer.parseInt(got) : 0;
            }
        }
        NuggetCamp other = new NuggetCamp();
        Check.due("run " + number + ": answers without refused calls and questions",
                answers(other, taken).equals(toldOfTaken), true);
        int[] last = lastQuestions(camp);
        same("run " + number, lastQuestions(other), last);
        Check.due("run " + number + ": all gold", camp.gold(4), gold);
        Check.due("run " + number + ": sum of gold", last[0] + last[1] + last[2] + last[3], gold);
    }

    public static void main(String[] args) {
        for (int number = 0; number < RUNS; number++) {
            seed = number * 7919L + 1;
            for (int i = 0; i < 5; i++) {
                below(2);
            }
            run(number);
        }
        Check.end();
    }
}
