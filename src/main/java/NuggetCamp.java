import java.util.ArrayList;

/**
 * A rush for gold along one creek. The promises that each call keeps are told in ../shared/DOC.md.
 *
 * <p>The face looks at all arguments and throws; the classes inside never throw, and answer for any
 * arguments.
 */
public final class NuggetCamp {
    public static final int NONE = -1;
    public static final int PAN = 0, ROCKER = 1, SLUICE = 2, MONITOR = 3;

    private static final int CELLS = 40;
    private static final int MINERS = 12;
    private static final int CLAIMS = 30;
    private static final int RIGHTS = 20;
    private static final int FREIGHTS = 20;
    private static final int PLAN_CELLS = 5;
    private static final int LAST_DAY = 5000;
    private static final int LARGEST_CODE = 10;
    private static final int MOST_COINS = 100000;
    private static final int MOST_BRASS = 100000;
    private static final int FULL_HEALTH = 10;
    private static final int SUIT_DAYS = 30;

    private static final Gear[] GEARS = Gear.values();

    private final Creek creek = new Creek();
    private final Store store = new Store();
    private final Rumours rumours = new Rumours();
    private final ArrayList<Miner> miners = new ArrayList<Miner>();
    private final ArrayList<Claim> claims = new ArrayList<Claim>();
    private final ArrayList<Right> rights = new ArrayList<Right>();
    private int today = 0;
    private int flowInches = 100;
    private int codeSize = 3;
    private int codeDays = 7;
    private int bankRate = 10;
    private int bankGold = 0;

    public NuggetCamp() {
    }

    // ---- the creek, miners

    public int ground(int cell, int grains, int clay)
            throws IndexOutOfBoundsException, IllegalArgumentException, IllegalStateException {
        checkCell(cell);
        checkRange(grains, 0, 100000);
        checkRange(clay, 0, 9);
        checkState(today == 0 && !creek.touched);
        int before = creek.grainsAt(cell);
        creek.lay(cell, grains, clay);
        return before;
    }

    public int flow(int inches) throws IllegalArgumentException {
        checkRange(inches, 0, 1000);
        int before = flowInches;
        flowInches = inches;
        return before;
    }

    public int miner(int food, int coins) throws IllegalArgumentException, IllegalStateException {
        checkRange(food, 0, 1000);
        checkRange(coins, 0, MOST_COINS);
        checkState(miners.size() < MINERS);
        miners.add(new Miner(food, coins));
        return miners.size() - 1;
    }

    public int pass(int days) throws IllegalArgumentException, IllegalStateException {
        checkRange(days, 1, 200);
        checkState(today + days <= LAST_DAY);
        for (int i = 0; i < days; i++) {
            passOneDay();
        }
        return today;
    }

    // ---- codes, claims, water

    public boolean meet(int size, int days, int yeses, int noes) throws IllegalArgumentException {
        checkRange(size, 1, LARGEST_CODE);
        checkRange(days, 1, 100);
        checkRange(yeses, 0, MINERS);
        checkRange(noes, 0, MINERS);
        checkArgument(yeses + noes <= livingMiners());
        boolean carried = yeses > noes;
        if (carried) {
            codeSize = size;
            codeDays = days;
        }
        return carried;
    }

    public int peg(int miner, int cell, int many)
            throws IndexOutOfBoundsException, IllegalArgumentException, IllegalStateException {
        Miner pegger = minerAt(miner);
        checkCell(cell);
        // Not cell + many, which could be beyond the largest int.
        checkIndex(many <= CELLS - cell);
        checkRange(many, 1, LARGEST_CODE);
        checkState(!pegger.isDead() && many <= codeSize && claims.size() < CLAIMS
                && areFree(cell, many));
        claims.add(new Claim(miner, cell, many, codeDays, today));
        return claims.size() - 1;
    }

    public int right(int miner, int inches)
            throws IndexOutOfBoundsException, IllegalArgumentException, IllegalStateException {
        Miner taker = minerAt(miner);
        checkRange(inches, 1, 200);
        checkState(!taker.isDead() && rights.size() < RIGHTS);
        rights.add(new Right(miner, inches));
        return rights.size() - 1;
    }

    // ---- work, dust

    public int work(int miner, int cell, int method)
            throws IndexOutOfBoundsException, IllegalArgumentException, IllegalStateException {
        Miner worker = minerAt(miner);
        checkCell(cell);
        Gear gear = gearAt(method);
        int claim = claimHolding(cell);
        checkState(!worker.isDead() && worker.workedOn != today && mayUse(gear, miner, claim)
                && inchesOfMiner(miner) >= gear.inches);
        int recovered = creek.dig(cell, gear);
        creek.touched = true;
        worker.workedOn = today;
        if (claim != NONE) {
            claimAt(claim).workedOn = today;
        }
        shareOut(worker, recovered);
        return recovered;
    }

    public int sample(int cell) throws IndexOutOfBoundsException {
        checkCell(cell);
        return creek.grainsAt(cell) / 100;
    }

    public int salt(int miner, int cell, int grains)
            throws IndexOutOfBoundsException, IllegalArgumentException, IllegalStateException {
        Miner salter = minerAt(miner);
        checkCell(cell);
        checkRange(grains, 1, 10000);
        checkState(!salter.isDead() && salter.gold >= grains);
        salter.gold -= grains;
        creek.drop(cell, grains);
        creek.touched = true;
        salter.noteSalting(cell, today);
        spoilSalesOfToday(miner, cell);
        return creek.grainsAt(cell);
    }

    public int brass(int miner, int grains)
            throws IndexOutOfBoundsException, IllegalArgumentException, IllegalStateException {
        Miner mixer = minerAt(miner);
        checkRange(grains, 1, 10000);
        checkState(!mixer.isDead() && mixer.brass + grains <= MOST_BRASS);
        mixer.brass += grains;
        return mixer.brass;
    }

    public int sell(int miner, int dust)
            throws IndexOutOfBoundsException, IllegalArgumentException, IllegalStateException {
        Miner seller = minerAt(miner);
        checkRange(dust, 1, 1000000);
        checkState(!seller.isDead() && seller.dust() >= dust);
        if (seller.isSuspect()) {
            seller.caught++;
            return NONE;
        }
        int brassPart = seller.brassIn(dust);
        int goldPart = dust - brassPart;
        int paid = dust * bankRate / 10;
        seller.brass -= brassPart;
        seller.gold -= goldPart;
        seller.coins += paid;
        bankGold += goldPart;
        return paid;
    }

    public int rate(int rate) throws IllegalArgumentException {
        checkRange(rate, 1, 100);
        int before = bankRate;
        bankRate = rate;
        return before;
    }

    // ---- the store, backers, sales

    public void freight(int food, int day) throws IllegalArgumentException, IllegalStateException {
        checkRange(food, 1, 1000);
        checkRange(day, today + 1, LAST_DAY);
        checkState(store.freightsUnderWay() < FREIGHTS);
        store.send(food, day);
    }

    public int buy(int miner, int food)
            throws IndexOutOfBoundsException, IllegalArgumentException, IllegalStateException {
        Miner buyer = minerAt(miner);
        checkRange(food, 1, 1000);
        int cost = food * store.price();
        checkState(!buyer.isDead() && store.food >= food && buyer.coins >= cost);
        store.food -= food;
        buyer.food += food;
        buyer.coins -= cost;
        return cost;
    }

    public void back(int backer, int miner, int percent, int coins)
            throws IndexOutOfBoundsException, IllegalArgumentException, IllegalStateException {
        Miner payer = minerAt(backer);
        Miner backed = minerAt(miner);
        checkRange(percent, 1, 100);
        checkRange(coins, 0, MOST_COINS);
        checkArgument(backer != miner);
        checkState(!payer.isDead() && !backed.isDead() && backed.percentOf(backer) == 0
                && payer.coins >= coins && backed.percentBacked() + percent <= 100);
        payer.coins -= coins;
        backed.coins += coins;
        backed.setPercent(backer, percent);
    }

    public int end(int backer, int miner) throws IndexOutOfBoundsException, IllegalStateException {
        checkIndex(isMiner(backer));
        Miner backed = minerAt(miner);
        int percent = backed.percentOf(backer);
        checkState(percent > 0);
        backed.setPercent(backer, 0);
        return percent;
    }

    public int trade(int claim, int buyer, int coins)
            throws IndexOutOfBoundsException, IllegalArgumentException, IllegalStateException {
        Claim traded = claimAt(claim);
        Miner payer = minerAt(buyer);
        checkRange(coins, 0, MOST_COINS);
        checkArgument(buyer != traded.owner);
        checkState(traded.held && !payer.isDead() && payer.coins >= coins);
        int seller = traded.owner;
        Miner payee = minerAt(seller);
        payer.coins -= coins;
        payee.coins += coins;
        boolean salted = payee.saltedLately(traded.top, traded.many, today);
        traded.sellTo(buyer, coins, today, salted);
        return seller;
    }

    public int suit(int claim) throws IndexOutOfBoundsException, IllegalStateException {
        Claim sold = claimAt(claim);
        checkState(sold.seller != NONE && !sold.suitBrought && today - sold.soldOn <= SUIT_DAYS);
        sold.suitBrought = true;
        if (!sold.soldSalted) {
            return NONE;
        }
        // Only a sale gives a claim to another one, so its miner is the buyer of the latest sale.
        Miner buyer = minerAt(sold.owner);
        Miner seller = minerAt(sold.seller);
        int returned = Math.min(sold.soldFor, seller.coins);
        seller.coins -= returned;
        buyer.coins += returned;
        return returned;
    }

    public int rumour(int cell, int belief)
            throws IndexOutOfBoundsException, IllegalArgumentException {
        checkCell(cell);
        checkRange(belief, 0, 100);
        int before = rumours.beliefOf(cell);
        rumours.tell(cell, belief);
        return before;
    }

    // ---- what is asked

    public int day() {
        return today;
    }

    public int holds(int cell) throws IndexOutOfBoundsException {
        checkCell(cell);
        return claimHolding(cell);
    }

    public int ofClaim(int claim, int what)
            throws IndexOutOfBoundsException, IllegalArgumentException {
        Claim asked = claimAt(claim);
        checkRange(what, 0, 5);
        switch (what) {
            case 0: return asked.owner;
            case 1: return asked.top;
            case 2: return asked.many;
            case 3: return asked.held ? 1 : 0;
            case 4: return asked.workedOn;
            default: return asked.daysOfWork;
        }
    }

    public int ofMiner(int miner, int what)
            throws IndexOutOfBoundsException, IllegalArgumentException {
        Miner asked = minerAt(miner);
        checkRange(what, 0, 7);
        switch (what) {
            case 0: return asked.gold;
            case 1: return asked.brass;
            case 2: return asked.food;
            case 3: return asked.coins;
            case 4: return asked.health;
            case 5: return inchesOfMiner(miner);
            case 6: return asked.caught;
            default: return asked.percentBacked();
        }
    }

    public int gets(int right) throws IndexOutOfBoundsException {
        checkIndex(right >= 0 && right < rights.size());
        return inchesOfRight(right);
    }

    public int gold(int what) throws IllegalArgumentException {
        checkRange(what, 0, 4);
        switch (what) {
            case 0: return creek.goldInGround();
            case 1: return creek.sea;
            case 2: return goldOfMiners();
            case 3: return bankGold;
            default: return creek.goldInGround() + creek.sea + goldOfMiners() + bankGold;
        }
    }

    public int camp(int what) throws IllegalArgumentException {
        checkRange(what, 0, 5);
        switch (what) {
            case 0: return codeSize;
            case 1: return codeDays;
            case 2: return store.food;
            case 3: return store.price();
            case 4: return store.freightsUnderWay();
            default: return livingMiners();
        }
    }

    public int belief(int cell) throws IndexOutOfBoundsException {
        checkCell(cell);
        return rumours.beliefOf(cell);
    }

    public int plan(int claim, int method)
            throws IndexOutOfBoundsException, IllegalArgumentException, IllegalStateException {
        Claim planned = claimAt(claim);
        Gear gear = gearAt(method);
        checkState(planned.many <= PLAN_CELLS);
        return creek.yieldDownwards(planned.top, planned.many, gear);
    }

    public int planCell(int claim, int method, int place)
            throws IndexOutOfBoundsException, IllegalArgumentException, IllegalStateException {
        Claim planned = claimAt(claim);
        checkIndex(place >= 0);
        checkRange(method, PAN, MONITOR);
        checkState(planned.many <= PLAN_CELLS);
        // The best plan is downwards, as yieldDownwards tells.
        return place < planned.many ? planned.top + place : NONE;
    }

    // ---- what is looked at ahead of a call

    private static void checkIndex(boolean allowed) {
        if (!allowed) {
            throw new IndexOutOfBoundsException("there is no such cell, miner, claim or right");
        }
    }

    private static void checkArgument(boolean allowed) {
        if (!allowed) {
            throw new IllegalArgumentException("an argument is out of its range");
        }
    }

    private static void checkState(boolean allowed) {
        if (!allowed) {
            throw new IllegalStateException("this can not be done now");
        }
    }

    private static void checkRange(int value, int least, int most) {
        checkArgument(value >= least && value <= most);
    }

    private static void checkCell(int cell) {
        checkIndex(isCell(cell));
    }

    private static boolean isCell(int cell) {
        return cell >= 0 && cell < CELLS;
    }

    private boolean isMiner(int number) {
        return number >= 0 && number < miners.size();
    }

    private Miner minerAt(int number) {
        if (!isMiner(number)) {
            throw new IndexOutOfBoundsException("there is no such miner");
        }
        return miners.get(number);
    }

    private Claim claimAt(int number) {
        if (number < 0 || number >= claims.size()) {
            throw new IndexOutOfBoundsException("there is no such claim");
        }
        return claims.get(number);
    }

    private static Gear gearAt(int method) {
        if (method < 0 || method >= GEARS.length) {
            throw new IllegalArgumentException("there is no such method");
        }
        return GEARS[method];
    }

    // ---- a day

    private void passOneDay() {
        today++;
        for (int i = 0; i < miners.size(); i++) {
            miners.get(i).liveOneDay();
        }
        store.unload(today);
        rumours.fade();
        for (int i = 0; i < claims.size(); i++) {
            lapseIfDue(claims.get(i));
        }
    }

    private void lapseIfDue(Claim claim) {
        if (isDead(claim.owner) || today - claim.workedOn > claim.daysOfWork) {
            claim.held = false;
        }
    }

    // ---- miners

    private boolean isDead(int miner) {
        return isMiner(miner) && miners.get(miner).isDead();
    }

    private int livingMiners() {
        int living = 0;
        for (int i = 0; i < miners.size(); i++) {
            if (!isDead(i)) {
                living++;
            }
        }
        return living;
    }

    private int goldOfMiners() {
        int sum = 0;
        for (int i = 0; i < miners.size(); i++) {
            sum += miners.get(i).gold;
        }
        return sum;
    }

    private void shareOut(Miner worker, int recovered) {
        int rest = recovered;
        for (int i = 0; i < miners.size(); i++) {
            int share = recovered * worker.percentOf(i) / 100;
            miners.get(i).gold += share;
            rest -= share;
        }
        worker.gold += rest;
    }

    // ---- claims

    private int claimHolding(int cell) {
        for (int i = 0; i < claims.size(); i++) {
            Claim claim = claims.get(i);
            if (claim.held && claim.covers(cell)) {
                return i;
            }
        }
        return NONE;
    }

    private boolean areFree(int top, int many) {
        for (int i = 0; i < many; i++) {
            if (claimHolding(top + i) != NONE) {
                return false;
            }
        }
        return true;
    }

    private boolean mayUse(Gear gear, int miner, int claim) {
        return claim == NONE ? gear == Gear.PAN : claimAt(claim).owner == miner;
    }

    private void spoilSalesOfToday(int seller, int cell) {
        for (int i = 0; i < claims.size(); i++) {
            Claim claim = claims.get(i);
            if (claim.seller == seller && claim.soldOn == today && claim.covers(cell)) {
                claim.soldSalted = true;
            }
        }
    }

    // ---- water

    private int inchesOfRight(int number) {
        int left = flowInches;
        int given = 0;
        for (int i = 0; i <= number && i < rights.size(); i++) {
            Right right = rights.get(i);
            given = isDead(right.owner) ? 0 : Math.min(right.inches, left);
            left -= given;
        }
        return given;
    }

    private int inchesOfMiner(int miner) {
        int sum = 0;
        for (int i = 0; i < rights.size(); i++) {
            if (rights.get(i).owner == miner) {
                sum += inchesOfRight(i);
            }
        }
        return sum;
    }

    /** The methods, in the order of their numbers. */
    private enum Gear {
        PAN(0, 20, 90), ROCKER(2, 100, 70), SLUICE(10, 400, 80), MONITOR(40, 2000, 50);

        private final int inches;
        private final int mostTaken;
        private final int hundredths;

        Gear(int inches, int mostTaken, int hundredths) {
            this.inches = inches;
            this.mostTaken = mostTaken;
            this.hundredths = hundredths;
        }

        int recoveredOf(int taken, int clay) {
            return taken * (hundredths - 3 * clay) / 100;
        }
    }

    /** The ground of all cells, and the sea below them. */
    private static final class Creek {
        private final int[] grains = new int[CELLS];
        private final int[] clay = new int[CELLS];
        private int sea = 0;
        private boolean touched = false;

        int grainsAt(int cell) {
            return isCell(cell) ? grains[cell] : 0;
        }

        int clayAt(int cell) {
            return isCell(cell) ? clay[cell] : 0;
        }

        void lay(int cell, int newGrains, int newClay) {
            if (isCell(cell)) {
                grains[cell] = newGrains;
                clay[cell] = newClay;
            }
        }

        /** What is dropped below the last cell is in the sea. */
        void drop(int cell, int more) {
            if (isCell(cell)) {
                grains[cell] += more;
            } else {
                sea += more;
            }
        }

        int dig(int cell, Gear gear) {
            int taken = Math.min(grainsAt(cell), gear.mostTaken);
            int recovered = gear.recoveredOf(taken, clayAt(cell));
            drop(cell, -taken);
            drop(cell + 1, taken - recovered);
            return recovered;
        }

        /**
         * What the best plan recovers. It is always the one that goes downwards: with more grains
         * in it a cell never yields less nor sends less down, and going downwards each cell is
         * worked with the most that it can have. Of equal plans it is the first one, too.
         */
        int yieldDownwards(int top, int many, Gear gear) {
            int sum = 0;
            int fromAbove = 0;
            for (int cell = top; cell < top + many; cell++) {
                int taken = Math.min(grainsAt(cell) + fromAbove, gear.mostTaken);
                int recovered = gear.recoveredOf(taken, clayAt(cell));
                sum += recovered;
                fromAbove = taken - recovered;
            }
            return sum;
        }

        int goldInGround() {
            int sum = 0;
            for (int i = 0; i < grains.length; i++) {
                sum += grains[i];
            }
            return sum;
        }
    }

    /** A miner, with those who back this one. */
    private static final class Miner {
        private final int[] percents = new int[MINERS];
        private final int[] saltedOn = new int[CELLS];
        private int gold = 0;
        private int brass = 0;
        private int food;
        private int coins;
        private int health = FULL_HEALTH;
        private int caught = 0;
        private int workedOn = NONE;

        Miner(int food, int coins) {
            this.food = food;
            this.coins = coins;
            for (int i = 0; i < saltedOn.length; i++) {
                saltedOn[i] = NONE;
            }
        }

        boolean isDead() {
            return health == 0;
        }

        void liveOneDay() {
            if (isDead()) {
                return;
            }
            if (food > 0) {
                food--;
                health = Math.min(FULL_HEALTH, health + 1);
            } else {
                health = Math.max(0, health - 2);
            }
        }

        int dust() {
            return gold + brass;
        }

        boolean isSuspect() {
            return brass * 20 > dust();
        }

        int brassIn(int sold) {
            int all = dust();
            // The product can be beyond the largest int; the answer is never above brass.
            return all > 0 ? (int) ((long) sold * brass / all) : 0;
        }

        int percentOf(int backer) {
            return backer >= 0 && backer < percents.length ? percents[backer] : 0;
        }

        void setPercent(int backer, int percent) {
            if (backer >= 0 && backer < percents.length) {
                percents[backer] = percent;
            }
        }

        int percentBacked() {
            int sum = 0;
            for (int i = 0; i < percents.length; i++) {
                sum += percents[i];
            }
            return sum;
        }

        void noteSalting(int cell, int day) {
            if (cell >= 0 && cell < saltedOn.length) {
                saltedOn[cell] = day;
            }
        }

        /** The latest salting of a cell is enough: a claim asks this on the day of its sale. */
        boolean saltedLately(int top, int many, int day) {
            for (int cell = Math.max(0, top); cell < top + many && cell < saltedOn.length; cell++) {
                if (saltedOn[cell] != NONE && day - saltedOn[cell] <= SUIT_DAYS) {
                    return true;
                }
            }
            return false;
        }
    }

    /** Some cells of a miner, with the latest sale of them; a seller of NONE means no sale. */
    private static final class Claim {
        private final int top;
        private final int many;
        private final int daysOfWork;
        private int owner;
        private int workedOn;
        private boolean held = true;
        private int seller = NONE;
        private int soldOn = NONE;
        private int soldFor = 0;
        private boolean soldSalted = false;
        private boolean suitBrought = false;

        Claim(int owner, int top, int many, int daysOfWork, int day) {
            this.owner = owner;
            this.top = top;
            this.many = many;
            this.daysOfWork = daysOfWork;
            this.workedOn = day;
        }

        boolean covers(int cell) {
            return cell >= top && cell < top + many;
        }

        void sellTo(int buyer, int coins, int day, boolean salted) {
            seller = owner;
            owner = buyer;
            soldOn = day;
            soldFor = coins;
            soldSalted = salted;
            suitBrought = false;
        }
    }

    /** A right to water. */
    private static final class Right {
        private final int owner;
        private final int inches;

        Right(int owner, int inches) {
            this.owner = owner;
            this.inches = inches;
        }
    }

    /** The food that is sold, and the freights that bring more; a freight of 0 food is none. */
    private static final class Store {
        private final int[] freightFood = new int[FREIGHTS];
        private final int[] freightDay = new int[FREIGHTS];
        private int food = 50;

        int price() {
            return food < 100 ? 5 + (100 - food) / 5 : 5;
        }

        int freightsUnderWay() {
            int count = 0;
            for (int i = 0; i < freightFood.length; i++) {
                if (freightFood[i] > 0) {
                    count++;
                }
            }
            return count;
        }

        void send(int sent, int day) {
            for (int i = 0; i < FREIGHTS; i++) {
                if (freightFood[i] == 0) {
                    freightFood[i] = sent;
                    freightDay[i] = day;
                    return;
                }
            }
        }

        void unload(int day) {
            for (int i = 0; i < FREIGHTS; i++) {
                if (freightFood[i] > 0 && freightDay[i] == day) {
                    food += freightFood[i];
                    freightFood[i] = 0;
                }
            }
        }
    }

    /** What is believed of the cells; a belief of 0 answers as no rumour does. */
    private static final class Rumours {
        private final int[] beliefs = new int[CELLS];

        int beliefOf(int cell) {
            return isCell(cell) ? beliefs[cell] : 0;
        }

        void tell(int cell, int newBelief) {
            if (isCell(cell)) {
                beliefs[cell] = newBelief;
            }
        }

        void fade() {
            for (int i = 0; i < beliefs.length; i++) {
                beliefs[i] = Math.max(0, beliefs[i] - beliefs[i] / 10 - 1);
            }
        }
    }
}
