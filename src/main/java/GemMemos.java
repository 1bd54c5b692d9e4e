/**
 * Gems that go round among dealers on memo.
 *
 * What each call answers is told, by numbers, in the document DOC.md; the parts
 * are: Market (a whole state), made of Prices, Stones and Memos; Script (the text
 * and its commands); History (the states that undo can restore).
 */
public final class GemMemos {
    public static final int INVALID_ARGUMENT = -10000001;
    public static final int NOT_POSSIBLE = -10000002;
    public static final int LIMIT_REACHED = -10000003;
    public static final int NOT_FOUND = -10000004;

    private static final int NONE = -1;
    private static final int SIEVES = 5;
    private static final int COLOURS = 10;
    private static final int CLARITIES = 8;
    private static final int MOST_COINS = 9999;
    // Added to balances, so that one below 0 is not taken for an error.
    private static final int BALANCE_BASE = 100000000;

    private final Market now;
    private final Market before;
    private final Market trial;
    private final Market snapshot;
    private final History history;
    private final Script script;
    private boolean hasSnapshot;

    public GemMemos() {
        now = new Market();
        before = new Market();
        trial = new Market();
        snapshot = new Market();
        history = new History();
        script = new Script();
        hasSnapshot = false;
    }

    // ---- dealers, stones, prices

    public int dealer() {
        before.copyFrom(now);
        return recorded(now.addDealer());
    }

    public int stone(int dealer, int weight, int colour, int clarity) {
        before.copyFrom(now);
        return recorded(now.addStone(dealer, weight, colour, clarity));
    }

    public int rate(int sieve, int colour, int clarity, int coins) {
        before.copyFrom(now);
        return recorded(now.putRate(sieve, colour, clarity, coins));
    }

    public int unrate(int sieve, int colour, int clarity) {
        before.copyFrom(now);
        return recorded(now.takeRate(sieve, colour, clarity));
    }

    // ---- memos

    public int lend(int from, int to, int days, int stones) {
        before.copyFrom(now);
        return recorded(now.lendStones(from, to, days, stones));
    }

    public int back(int stone) {
        before.copyFrom(now);
        return recorded(now.giveBack(stone));
    }

    public int keep(int stone) {
        before.copyFrom(now);
        return recorded(now.keepStone(stone));
    }

    public int sell(int stone, int coins) {
        before.copyFrom(now);
        return recorded(now.sellStone(stone, coins));
    }

    public int grade(int stone, int colour, int clarity) {
        before.copyFrom(now);
        return recorded(now.regrade(stone, colour, clarity));
    }

    public int pause(int days) {
        before.copyFrom(now);
        return recorded(now.passDays(days));
    }

    public int set(int what, int value) {
        before.copyFrom(now);
        return recorded(now.putSetting(what, value));
    }

    // ---- what there is

    public int stoneOf(int stone, int what) {
        if (!now.stones.has(stone)) {
            return INVALID_ARGUMENT;
        }
        return now.tellStone(stone, what);
    }

    public int dealerOf(int dealer, int what) {
        if (!now.hasDealer(dealer)) {
            return INVALID_ARGUMENT;
        }
        return now.tellDealer(dealer, what);
    }

    public int memoOf(int memo, int what) {
        if (!now.memos.has(memo)) {
            return INVALID_ARGUMENT;
        }
        return now.tellMemo(memo, what);
    }

    public int rateOf(int sieve, int colour, int clarity, int own) {
        if (!isGrade(sieve, colour, clarity) || own < 0 || own > 1) {
            return INVALID_ARGUMENT;
        }
        int coins = own == 1 ? now.prices.ownRate(sieve, colour, clarity)
                : now.prices.rateFor(sieve, colour, clarity);
        return coins == 0 ? NOT_FOUND : coins;
    }

    public int count(int what) {
        switch (what) {
            case 11:
                return history.size;
            case 12:
                return script.length;
            case 13:
                return hasSnapshot ? 1 : 0;
            default:
                return now.tellNumber(what);
        }
    }

    // ---- what is found

    public int best(int dealer, int coins) {
        if (!now.hasDealer(dealer) || coins < 0 || coins > 99999) {
            return INVALID_ARGUMENT;
        }
        return now.dearestHeld(dealer, coins);
    }

    public int pair(int dealer, int what) {
        if (!now.hasDealer(dealer) || what < 0 || what > 2) {
            return INVALID_ARGUMENT;
        }
        return now.stones.closestPair(dealer, what);
    }

    public int grades(int dealer) {
        if (!now.hasDealer(dealer)) {
            return INVALID_ARGUMENT;
        }
        return now.stones.unlikeGrades(dealer);
    }

    // ---- snapshot, undo

    public int mark() {
        snapshot.copyFrom(now);
        hasSnapshot = true;
        return now.time;
    }

    public int restore() {
        if (!hasSnapshot) {
            return NOT_POSSIBLE;
        }
        history.push(now);
        now.copyFrom(snapshot);
        return now.time;
    }

    public int undo() {
        if (history.size == 0) {
            return NOT_POSSIBLE;
        }
        history.popInto(now);
        return history.size;
    }

    // ---- texts

    public int type(int character) {
        if (character < 32 || character > 126) {
            return INVALID_ARGUMENT;
        }
        return script.append((char) character);
    }

    public int clearText() {
        int length = script.length;
        script.length = 0;
        return length;
    }

    public int fault(int what) {
        if (what < 0 || what > 2) {
            return INVALID_ARGUMENT;
        }
        trial.copyFrom(now);
        script.runOn(trial);
        return script.tellFault(what);
    }

    public int play() {
        trial.copyFrom(now);
        int done = script.runOn(trial);
        if (script.hasFault()) {
            return NOT_POSSIBLE;
        }
        history.push(now);
        now.copyFrom(trial);
        return done;
    }

    /** Keeps the state that was before a change, unless the change answered an error. */
    private int recorded(int answer) {
        if (answer >= 0) {
            history.push(before);
        }
        return answer;
    }

    private static boolean isGrade(int sieve, int colour, int clarity) {
        return sieve >= 0 && sieve < SIEVES && isLook(colour, clarity);
    }

    private static boolean isLook(int colour, int clarity) {
        return colour >= 0 && colour < COLOURS && clarity >= 0 && clarity < CLARITIES;
    }

    /** The price list: a place whose coins are 0 is free. */
    private static final class Prices {
        private static final int LIMIT = 24;

        private final int[] sieves = new int[LIMIT];
        private final int[] colours = new int[LIMIT];
        private final int[] clarities = new int[LIMIT];
        private final int[] coins = new int[LIMIT];

        int entries() {
            int entries = 0;
            for (int i = 0; i < LIMIT; i++) {
                if (coins[i] != 0) {
                    entries++;
                }
            }
            return entries;
        }

        /** Answers the rate of the entry of this very grade, 0 if there is none. */
        int ownRate(int sieve, int colour, int clarity) {
            for (int i = 0; i < LIMIT; i++) {
                if (isEntryOf(i, sieve, colour, clarity)) {
                    return coins[i];
                }
            }
            return 0;
        }

        /** Answers the rate of a grade, also by a worse entry, 0 if there is none. */
        int rateFor(int sieve, int colour, int clarity) {
            int greatest = 0;
            for (int i = 0; i < LIMIT; i++) {
                if (coins[i] == 0 || sieves[i] != sieve
                        || colours[i] < colour || clarities[i] < clarity) {
                    continue;
                }
                if (colours[i] == colour && clarities[i] == clarity) {
                    return coins[i];
                }
                if (coins[i] > greatest) {
                    greatest = coins[i];
                }
            }
            return greatest;
        }

        /** Changes the entry of a grade that has one; sum 0 takes it out. */
        void change(int sieve, int colour, int clarity, int sum) {
            for (int i = 0; i < LIMIT; i++) {
                if (isEntryOf(i, sieve, colour, clarity)) {
                    coins[i] = sum;
                }
            }
        }

        /** Adds an entry in the first free place; answers whether there was one. */
        boolean add(int sieve, int colour, int clarity, int sum) {
            for (int i = 0; i < LIMIT; i++) {
                if (coins[i] == 0) {
                    sieves[i] = sieve;
                    colours[i] = colour;
                    clarities[i] = clarity;
                    coins[i] = sum;
                    return true;
                }
            }
            return false;
        }

        void copyFrom(Prices other) {
            System.arraycopy(other.sieves, 0, sieves, 0, LIMIT);
            System.arraycopy(other.colours, 0, colours, 0, LIMIT);
            System.arraycopy(other.clarities, 0, clarities, 0, LIMIT);
            System.arraycopy(other.coins, 0, coins, 0, LIMIT);
        }

        private boolean isEntryOf(int i, int sieve, int colour, int clarity) {
            return coins[i] != 0 && sieves[i] == sieve
                    && colours[i] == colour && clarities[i] == clarity;
        }
    }

    /** The stones, a row of numbers for each thing that is told of one. */
    private static final class Stones {
        private static final int LIMIT = 20;

        private int count = 0;
        private final int[] weights = new int[LIMIT];
        private final int[] colours = new int[LIMIT];
        private final int[] clarities = new int[LIMIT];
        // NONE for owner and holder: sold; for memo: not out; 0 coins: not sold.
        private final int[] owners = new int[LIMIT];
        private final int[] holders = new int[LIMIT];
        private final int[] memos = new int[LIMIT];
        private final int[] asked = new int[LIMIT];
        private final int[] soldFor = new int[LIMIT];
        private final int[] timesKept = new int[LIMIT];

        boolean has(int stone) {
            return stone >= 0 && stone < count && stone < LIMIT;
        }

        /** Adds a stone; answers its number, NONE if there is no room. */
        int add(int dealer, int weight, int colour, int clarity) {
            if (count < 0 || count >= LIMIT) {
                return NONE;
            }
            int stone = count;
            weights[stone] = weight;
            colours[stone] = colour;
            clarities[stone] = clarity;
            owners[stone] = dealer;
            holders[stone] = dealer;
            memos[stone] = NONE;
            asked[stone] = 0;
            soldFor[stone] = 0;
            timesKept[stone] = 0;
            count++;
            return stone;
        }

        int sieveOf(int stone) {
            int weight = weights[stone];
            if (weight < 10) {
                return 0;
            }
            if (weight < 25) {
                return 1;
            }
            if (weight < 50) {
                return 2;
            }
            return weight < 100 ? 3 : 4;
        }

        boolean isOut(int stone) {
            return memos[stone] != NONE;
        }

        boolean isSold(int stone) {
            return soldFor[stone] != 0;
        }

        /** Answers where a row has a value, as a set of stones. */
        int setWhere(int[] row, int value) {
            int set = 0;
            for (int s = 0; s < count; s++) {
                if (row[s] == value) {
                    set |= 1 << s;
                }
            }
            return set;
        }

        int countSold() {
            int sold = 0;
            for (int s = 0; s < count; s++) {
                if (isSold(s)) {
                    sold++;
                }
            }
            return sold;
        }

        int countOut() {
            int out = 0;
            for (int s = 0; s < count; s++) {
                if (isOut(s)) {
                    out++;
                }
            }
            return out;
        }

        int sumSold() {
            int sum = 0;
            for (int s = 0; s < count; s++) {
                sum += soldFor[s];
            }
            return sum;
        }

        /** Adds up what is asked for those that are out, where a row has a value. */
        int sumAsked(int[] row, int value) {
            int sum = 0;
            for (int s = 0; s < count; s++) {
                if (isOut(s) && row[s] == value) {
                    sum += asked[s];
                }
            }
            return sum;
        }

        /** Answers what of the pair that differs least in weight: 0, 1 a number, 2 by how much. */
        int closestPair(int dealer, int what) {
            int lower = NONE;
            int greater = NONE;
            int least = 0;
            for (int s = 0; s < count; s++) {
                for (int t = s + 1; t < count; t++) {
                    int gap = Math.abs(weights[s] - weights[t]);
                    if (holders[s] == dealer && holders[t] == dealer && sameGrade(s, t)
                            && (lower == NONE || gap < least)) {
                        lower = s;
                        greater = t;
                        least = gap;
                    }
                }
            }
            if (lower == NONE) {
                return NOT_FOUND;
            }
            return what == 0 ? lower : what == 1 ? greater : least;
        }

        int unlikeGrades(int dealer) {
            int unlike = 0;
            for (int s = 0; s < count; s++) {
                if (holders[s] == dealer && !hasLikeBefore(s, dealer)) {
                    unlike++;
                }
            }
            return unlike;
        }

        void copyFrom(Stones other) {
            count = other.count;
            System.arraycopy(other.weights, 0, weights, 0, LIMIT);
            System.arraycopy(other.colours, 0, colours, 0, LIMIT);
            System.arraycopy(other.clarities, 0, clarities, 0, LIMIT);
            System.arraycopy(other.owners, 0, owners, 0, LIMIT);
            System.arraycopy(other.holders, 0, holders, 0, LIMIT);
            System.arraycopy(other.memos, 0, memos, 0, LIMIT);
            System.arraycopy(other.asked, 0, asked, 0, LIMIT);
            System.arraycopy(other.soldFor, 0, soldFor, 0, LIMIT);
            System.arraycopy(other.timesKept, 0, timesKept, 0, LIMIT);
        }

        private boolean hasLikeBefore(int stone, int dealer) {
            for (int s = 0; s < stone; s++) {
                if (holders[s] == dealer && sameGrade(s, stone)) {
                    return true;
                }
            }
            return false;
        }

        private boolean sameGrade(int s, int t) {
            return sieveOf(s) == sieveOf(t) && colours[s] == colours[t]
                    && clarities[s] == clarities[t];
        }
    }

    /** The memos; which stones are out by one, the stones tell. */
    private static final class Memos {
        private static final int LIMIT = 10;

        private int count = 0;
        private final int[] lenders = new int[LIMIT];
        private final int[] takers = new int[LIMIT];
        private final int[] lastDays = new int[LIMIT];
        private final int[] lent = new int[LIMIT];
        private final int[] kept = new int[LIMIT];

        boolean has(int memo) {
            return memo >= 0 && memo < count && memo < LIMIT;
        }

        /** Adds a memo; answers its number, NONE if there is no room. */
        int add(int from, int to, int lastDay, int stones) {
            if (count < 0 || count >= LIMIT) {
                return NONE;
            }
            int memo = count;
            lenders[memo] = from;
            takers[memo] = to;
            lastDays[memo] = lastDay;
            lent[memo] = stones;
            kept[memo] = 0;
            count++;
            return memo;
        }

        void copyFrom(Memos other) {
            count = other.count;
            System.arraycopy(other.lenders, 0, lenders, 0, LIMIT);
            System.arraycopy(other.takers, 0, takers, 0, LIMIT);
            System.arraycopy(other.lastDays, 0, lastDays, 0, LIMIT);
            System.arraycopy(other.lent, 0, lent, 0, LIMIT);
            System.arraycopy(other.kept, 0, kept, 0, LIMIT);
        }
    }

    /** A whole state: all that a change records, a snapshot takes and undo restores. */
    private static final class Market {
        private static final int DEALER_LIMIT = 6;
        private static final int TIME_LIMIT = 2000;

        private final Prices prices = new Prices();
        private final Stones stones = new Stones();
        private final Memos memos = new Memos();
        private final int[] balances = new int[DEALER_LIMIT];
        private int dealers = 0;
        private int time = 0;
        private int grace = 3;
        private int extra = 10;
        private int keptLate = 0;

        void copyFrom(Market other) {
            prices.copyFrom(other.prices);
            stones.copyFrom(other.stones);
            memos.copyFrom(other.memos);
            System.arraycopy(other.balances, 0, balances, 0, DEALER_LIMIT);
            dealers = other.dealers;
            time = other.time;
            grace = other.grace;
            extra = other.extra;
            keptLate = other.keptLate;
        }

        boolean hasDealer(int dealer) {
            return dealer >= 0 && dealer < dealers && dealer < DEALER_LIMIT;
        }

        int addDealer() {
            if (dealers < 0 || dealers >= DEALER_LIMIT) {
                return LIMIT_REACHED;
            }
            balances[dealers] = 0;
            dealers++;
            return dealers - 1;
        }

        int addStone(int dealer, int weight, int colour, int clarity) {
            if (!hasDealer(dealer) || weight < 1 || weight > 999 || !isLook(colour, clarity)) {
                return INVALID_ARGUMENT;
            }
            int stone = stones.add(dealer, weight, colour, clarity);
            return stone == NONE ? LIMIT_REACHED : stone;
        }

        int putRate(int sieve, int colour, int clarity, int coins) {
            if (!isGrade(sieve, colour, clarity) || coins < 1 || coins > MOST_COINS) {
                return INVALID_ARGUMENT;
            }
            int was = prices.ownRate(sieve, colour, clarity);
            if (was != 0) {
                prices.change(sieve, colour, clarity, coins);
                return was;
            }
            return prices.add(sieve, colour, clarity, coins) ? 0 : LIMIT_REACHED;
        }

        int takeRate(int sieve, int colour, int clarity) {
            if (!isGrade(sieve, colour, clarity)) {
                return INVALID_ARGUMENT;
            }
            int was = prices.ownRate(sieve, colour, clarity);
            if (was == 0) {
                return NOT_POSSIBLE;
            }
            prices.change(sieve, colour, clarity, 0);
            return was;
        }

        int lendStones(int from, int to, int days, int set) {
            if (!hasDealer(from) || !hasDealer(to) || from == to || days < 1 || days > 90
                    || set <= 0 || set >> stones.count != 0) {
                return INVALID_ARGUMENT;
            }
            if (!canLend(from, set)) {
                return NOT_POSSIBLE;
            }
            int memo = memos.add(from, to, time + days, set);
            if (memo == NONE) {
                return LIMIT_REACHED;
            }
            for (int s = 0; s < stones.count; s++) {
                if ((set >> s & 1) == 1) {
                    stones.holders[s] = to;
                    stones.memos[s] = memo;
                    stones.asked[s] = priceOf(s);
                }
            }
            return memo;
        }

        int giveBack(int stone) {
            if (!stones.has(stone)) {
                return INVALID_ARGUMENT;
            }
            if (!stones.isOut(stone)) {
                return NOT_POSSIBLE;
            }
            int memo = stones.memos[stone];
            stones.holders[stone] = stones.owners[stone];
            stones.memos[stone] = NONE;
            return Integer.bitCount(stones.setWhere(stones.memos, memo));
        }

        int keepStone(int stone) {
            if (!stones.has(stone)) {
                return INVALID_ARGUMENT;
            }
            if (!stones.isOut(stone)) {
                return NOT_POSSIBLE;
            }
            int paid = stones.asked[stone];
            keepFor(stone, paid);
            return paid;
        }

        int sellStone(int stone, int coins) {
            if (!stones.has(stone) || coins < 1 || coins > MOST_COINS) {
                return INVALID_ARGUMENT;
            }
            int owner = stones.owners[stone];
            if (stones.isOut(stone) || stones.isSold(stone) || !hasDealer(owner)) {
                return NOT_POSSIBLE;
            }
            stones.soldFor[stone] = coins;
            stones.owners[stone] = NONE;
            stones.holders[stone] = NONE;
            balances[owner] += coins;
            return balances[owner] + BALANCE_BASE;
        }

        int regrade(int stone, int colour, int clarity) {
            if (!stones.has(stone) || !isLook(colour, clarity)) {
                return INVALID_ARGUMENT;
            }
            if (stones.isSold(stone)) {
                return NOT_POSSIBLE;
            }
            int was = 10 * stones.colours[stone] + stones.clarities[stone];
            stones.colours[stone] = colour;
            stones.clarities[stone] = clarity;
            int price = priceOf(stone);
            if (stones.isOut(stone) && price != NONE) {
                stones.asked[stone] = price;
            }
            return was;
        }

        int passDays(int days) {
            if (days < 1 || days > 99) {
                return INVALID_ARGUMENT;
            }
            if (time + days > TIME_LIMIT) {
                return LIMIT_REACHED;
            }
            int late = 0;
            for (int day = 0; day < days; day++) {
                time++;
                late += keepLateOnes();
            }
            keptLate += late;
            return late;
        }

        int putSetting(int what, int value) {
            if (what < 0 || what > 1 || value < 0 || value > (what == 0 ? 30 : 100)) {
                return INVALID_ARGUMENT;
            }
            int was = what == 0 ? grace : extra;
            if (what == 0) {
                grace = value;
            } else {
                extra = value;
            }
            return was;
        }

        /** Tells something of a stone that there is. */
        int tellStone(int stone, int what) {
            switch (what) {
                case 0:
                    return stones.weights[stone];
                case 1:
                    return stones.colours[stone];
                case 2:
                    return stones.clarities[stone];
                case 3:
                    return stones.sieveOf(stone);
                case 4:
                    return stones.isSold(stone) ? NOT_FOUND : stones.owners[stone];
                case 5:
                    return stones.isSold(stone) ? NOT_FOUND : stones.holders[stone];
                case 6:
                    int price = priceOf(stone);
                    return price == NONE ? NOT_FOUND : price;
                case 7:
                    return stones.isOut(stone) ? stones.memos[stone] : NOT_FOUND;
                case 8:
                    return stones.isOut(stone) ? stones.asked[stone] : NOT_FOUND;
                case 9:
                    return stones.isSold(stone) ? stones.soldFor[stone] : NOT_FOUND;
                case 10:
                    return stones.timesKept[stone];
                default:
                    return INVALID_ARGUMENT;
            }
        }

        /** Tells something of a dealer that there is. */
        int tellDealer(int dealer, int what) {
            switch (what) {
                case 0:
                    return balances[dealer] + BALANCE_BASE;
                case 1:
                    return stones.setWhere(stones.owners, dealer);
                case 2:
                    return stones.setWhere(stones.holders, dealer);
                case 3:
                    return worthOf(dealer);
                case 4:
                    return stones.sumAsked(stones.holders, dealer);
                case 5:
                    return stones.sumAsked(stones.owners, dealer);
                default:
                    return INVALID_ARGUMENT;
            }
        }

        /** Tells something of a memo that there is. */
        int tellMemo(int memo, int what) {
            switch (what) {
                case 0:
                    return memos.lenders[memo];
                case 1:
                    return memos.takers[memo];
                case 2:
                    return memos.lastDays[memo];
                case 3:
                    return stones.setWhere(stones.memos, memo);
                case 4:
                    return memos.lent[memo];
                case 5:
                    return memos.kept[memo];
                case 6:
                    return isOpen(memo) ? 1 : 0;
                case 7:
                    return Math.max(0, memos.lastDays[memo] - time);
                default:
                    return INVALID_ARGUMENT;
            }
        }

        int tellNumber(int what) {
            switch (what) {
                case 0:
                    return dealers;
                case 1:
                    return stones.count;
                case 2:
                    return stones.countSold();
                case 3:
                    return stones.countOut();
                case 4:
                    return memos.count;
                case 5:
                    return countOpen();
                case 6:
                    return prices.entries();
                case 7:
                    return time;
                case 8:
                    return sumOfBalances() + BALANCE_BASE;
                case 9:
                    return stones.sumSold();
                case 10:
                    return keptLate;
                case 14:
                    return grace;
                case 15:
                    return extra;
                default:
                    return INVALID_ARGUMENT;
            }
        }

        /** Finds the dearest stone that a dealer holds, for at most so many coins. */
        int dearestHeld(int dealer, int coins) {
            int found = NONE;
            int dearest = 0;
            for (int s = 0; s < stones.count; s++) {
                int price = priceOf(s);
                if (stones.holders[s] != dealer || price == NONE || price > coins) {
                    continue;
                }
                if (found == NONE || price > dearest
                        || price == dearest && stones.weights[s] > stones.weights[found]) {
                    found = s;
                    dearest = price;
                }
            }
            return found == NONE ? NOT_FOUND : found;
        }

        /** Answers the price of a stone that there is, NONE if there is no rate. */
        private int priceOf(int stone) {
            int rate = prices.rateFor(stones.sieveOf(stone), stones.colours[stone],
                    stones.clarities[stone]);
            return rate == 0 ? NONE : stones.weights[stone] * rate / 100;
        }

        private boolean canLend(int from, int set) {
            for (int s = 0; s < stones.count; s++) {
                if ((set >> s & 1) == 1 && (stones.owners[s] != from
                        || stones.holders[s] != from || priceOf(s) == NONE)) {
                    return false;
                }
            }
            return true;
        }

        /** Makes the holder of a stone that is out its owner, for a sum. */
        private void keepFor(int stone, int sum) {
            int owner = stones.owners[stone];
            int holder = stones.holders[stone];
            int memo = stones.memos[stone];
            if (!hasDealer(owner) || !hasDealer(holder) || !memos.has(memo)) {
                return;
            }
            balances[holder] -= sum;
            balances[owner] += sum;
            memos.kept[memo]++;
            stones.owners[stone] = holder;
            stones.memos[stone] = NONE;
            stones.timesKept[stone]++;
        }

        /** Keeps those that are late on the day; answers how many. */
        private int keepLateOnes() {
            int late = 0;
            for (int m = 0; m < memos.count; m++) {
                if (time - memos.lastDays[m] <= grace) {
                    continue;
                }
                for (int s = 0; s < stones.count; s++) {
                    if (stones.memos[s] == m) {
                        keepFor(s, stones.asked[s] + stones.asked[s] * extra / 100);
                        late++;
                    }
                }
            }
            return late;
        }

        private int worthOf(int dealer) {
            int worth = 0;
            for (int s = 0; s < stones.count; s++) {
                int price = priceOf(s);
                if (stones.owners[s] == dealer && price != NONE) {
                    worth += price;
                }
            }
            return worth;
        }

        private boolean isOpen(int memo) {
            return stones.setWhere(stones.memos, memo) != 0;
        }

        private int countOpen() {
            int open = 0;
            for (int m = 0; m < memos.count; m++) {
                if (isOpen(m)) {
                    open++;
                }
            }
            return open;
        }

        private int sumOfBalances() {
            int sum = 0;
            for (int d = 0; d < dealers; d++) {
                sum += balances[d];
            }
            return sum;
        }
    }

    /** The text, its commands, and what its latest run on a market came to. */
    private static final class Script {
        private static final int LIMIT = 60;
        private static final int MOST_DIGITS = 4;
        private static final int BAD_FORM = 1;
        private static final int REFUSED = 2;

        private static final int LEND = 0;
        private static final int BACK = 1;
        private static final int KEEP = 2;
        private static final int SELL = 3;
        private static final int GRADE = 4;
        private static final int RATE = 5;
        private static final int WAIT = 6;
        private static final int KINDS = 7;

        private final char[] signs = new char[LIMIT];
        private int length = 0;

        // The command that was read last, and where the one behind it begins.
        private int kind = 0;
        private final int[] numbers = new int[4];
        private int next = 0;

        private int faultAt = NONE;
        private int reason = 0;
        private int cause = 0;

        int append(char sign) {
            if (length < 0 || length >= LIMIT) {
                return LIMIT_REACHED;
            }
            signs[length] = sign;
            length++;
            return length;
        }

        boolean hasFault() {
            return faultAt != NONE;
        }

        int tellFault(int what) {
            if (faultAt == NONE) {
                return NOT_FOUND;
            }
            return what == 0 ? faultAt : what == 1 ? reason : cause;
        }

        /** Does the commands on a market up to the first fault; answers how many. */
        int runOn(Market market) {
            faultAt = NONE;
            int at = 0;
            int done = 0;
            // No command is shorter than one sign, so the length bounds their number.
            while (at < length && done < LIMIT) {
                if (!readCommand(at)) {
                    putFault(at, BAD_FORM, NOT_FOUND);
                    return done;
                }
                int answer = perform(market);
                if (answer < 0) {
                    putFault(at, REFUSED, answer);
                    return done;
                }
                at = next;
                done++;
            }
            return done;
        }

        private void putFault(int at, int newReason, int newCause) {
            faultAt = at;
            reason = newReason;
            cause = newCause;
        }

        private int perform(Market market) {
            int first = numbers[0];
            int second = numbers[1];
            int third = numbers[2];
            int fourth = numbers[3];
            switch (kind) {
                case LEND:
                    // A shift by more than 31 would tell another stone's set.
                    int set = market.stones.has(fourth) ? 1 << fourth : 0;
                    return market.lendStones(first, second, third, set);
                case BACK:
                    return market.giveBack(first);
                case KEEP:
                    return market.keepStone(first);
                case SELL:
                    return market.sellStone(first, second);
                case GRADE:
                    return market.regrade(first, second, third);
                case RATE:
                    return market.putRate(first, second, third, fourth);
                case WAIT:
                default:
                    return market.passDays(first);
            }
        }

        /** Reads the command that begins at a place; answers whether it is of the form. */
        private boolean readCommand(int start) {
            for (int k = 0; k < KINDS; k++) {
                String word = wordOf(k);
                if (isWordAt(start, word)) {
                    kind = k;
                    return readNumbers(start + word.length(), howManyNumbers(k));
                }
            }
            return false;
        }

        private static String wordOf(int kind) {
            switch (kind) {
                case LEND:
                    return "lend";
                case BACK:
                    return "back";
                case KEEP:
                    return "keep";
                case SELL:
                    return "sell";
                case GRADE:
                    return "grade";
                case RATE:
                    return "rate";
                case WAIT:
                default:
                    return "wait";
            }
        }

        private static int howManyNumbers(int kind) {
            switch (kind) {
                case LEND:
                case RATE:
                    return 4;
                case GRADE:
                    return 3;
                case SELL:
                    return 2;
                case BACK:
                case KEEP:
                case WAIT:
                default:
                    return 1;
            }
        }

        private boolean isWordAt(int start, String word) {
            for (int i = 0; i < word.length(); i++) {
                if (signAt(start + i) != word.charAt(i)) {
                    return false;
                }
            }
            return true;
        }

        /** Reads numbers, a blank ahead of each, and the ";" behind the last one. */
        private boolean readNumbers(int start, int many) {
            int at = start;
            for (int i = 0; i < many && i < numbers.length; i++) {
                int digits = digitsAt(at + 1);
                if (signAt(at) != ' ' || digits == 0) {
                    return false;
                }
                numbers[i] = valueAt(at + 1, digits);
                at += 1 + digits;
            }
            next = at + 1;
            return signAt(at) == ';';
        }

        /** Counts the digits from a place on, as far as a number may have them. */
        private int digitsAt(int start) {
            int digits = 0;
            while (digits < MOST_DIGITS && isDigit(signAt(start + digits))) {
                digits++;
            }
            return digits;
        }

        private int valueAt(int start, int digits) {
            int value = 0;
            for (int i = 0; i < digits; i++) {
                value = 10 * value + signAt(start + i) - '0';
            }
            return value;
        }

        private static boolean isDigit(char sign) {
            return sign >= '0' && sign <= '9';
        }

        /** Answers the sign at a place, one that no text has where there is none. */
        private char signAt(int at) {
            return at >= 0 && at < length && at < LIMIT ? signs[at] : (char) 0;
        }
    }

    /**
     * The latest states ahead of changes, in a ring. Its rows are never moved: OpenJDK
     * 17's compiler (C2, with G1) has been seen to mistake a loop that shifts references.
     */
    private static final class History {
        private static final int LIMIT = 4;

        private final Market[] states = new Market[LIMIT];
        private int oldest = 0;
        private int size = 0;

        History() {
            for (int i = 0; i < LIMIT; i++) {
                states[i] = new Market();
            }
        }

        /** Adds a state as the latest one; the oldest one gives room if there is none. */
        void push(Market state) {
            if (size == LIMIT) {
                oldest = (oldest + 1) % LIMIT;
                size--;
            }
            Market room = states[Math.floorMod(oldest + size, LIMIT)];
            if (room != null) {
                room.copyFrom(state);
                size++;
            }
        }

        /** Copies the latest state into a market, and removes it. */
        void popInto(Market market) {
            if (size == 0) {
                return;
            }
            Market latest = states[Math.floorMod(oldest + size - 1, LIMIT)];
            if (latest != null) {
                market.copyFrom(latest);
                size--;
            }
        }
    }
}
