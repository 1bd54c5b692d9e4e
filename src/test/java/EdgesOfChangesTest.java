/** Promises 1 to 12, one after the other: each sentence that names an edge. */
public final class EdgesOfChangesTest {
    private static final int MIN = Integer.MIN_VALUE;
    private static final int MAX = Integer.MAX_VALUE;
    private static final int[] NO_SIEVES = {MIN, -1, 5, 6, 256, MAX};
    private static final int[] NO_COLOURS = {MIN, -1, 10, 11, 256, MAX};
    private static final int[] NO_CLARITIES = {MIN, -1, 8, 9, 256, MAX};
    private static final Due due = new Due();

    public static void main(String[] args) {
        newObject();
        dealer();
        stone();
        stoneLimit();
        rate();
        rateLimit();
        unrate();
        lendArguments();
        lendRefusals();
        lendLimit();
        back();
        keep();
        sell();
        sellRefusals();
        grade();
        pause();
        pauseLimit();
        set();
        due.end();
    }

    private static void newObject() {
        due.sentence("Promise 1", "Creates a market without dealers and stones, on the day 0");
        GemMemos gems = new GemMemos();
        int[] dues = {0, 0, 0, 0, 0, 0, 0, 0, Due.BASE, 0, 0, 0, 0, 0, 3, 10};
        for (int what = 0; what < dues.length; what++) {
            due.is("count(" + what + ")", gems.count(what), dues[what]);
        }
        for (int number = 0; number < 20; number++) {
            due.is("dealerOf", gems.dealerOf(number, 0), Due.INVALID);
            due.is("stoneOf", gems.stoneOf(number, 0), Due.INVALID);
            due.is("memoOf", gems.memoOf(number, 0), Due.INVALID);
        }
        due.refused("stone", gems, () -> gems.stone(0, 1, 0, 0), Due.INVALID);
        due.refused("lend", gems, () -> gems.lend(0, 1, 1, 1), Due.INVALID);
        due.refused("unrate", gems, () -> gems.unrate(0, 0, 0), Due.NOT_POSSIBLE);
        due.refused("restore", gems, gems::restore, Due.NOT_POSSIBLE);
        due.refused("undo", gems, gems::undo, Due.NOT_POSSIBLE);
        GemMemos other = new GemMemos();
        other.dealer();
        due.is("another object's dealers", gems.count(0), 0);
    }

    private static void dealer() {
        due.sentence("Promise 2", "Returns the number of the dealer");
        GemMemos gems = new GemMemos();
        for (int i = 0; i < 6; i++) {
            due.is("dealer", gems.dealer(), i);
        }
        due.sentence("Promise 2", "LIMIT_REACHED if there are 6");
        due.refused("the 7th", gems, gems::dealer, Due.LIMIT);
        due.is("there are", gems.count(0), 6);
        gems.undo();
        due.is("one less", gems.count(0), 5);
        due.is("the 6th again", gems.dealer(), 5);
        due.refused("the 7th again", gems, gems::dealer, Due.LIMIT);
    }

    private static void dueStone(int weight, int colour, int clarity, boolean good) {
        GemMemos gems = Due.withDealers(1);
        if (good) {
            due.is("stone", gems.stone(0, weight, colour, clarity), 0);
            due.is("weight", gems.stoneOf(0, 0), weight);
            due.is("colour", gems.stoneOf(0, 1), colour);
            due.is("clarity", gems.stoneOf(0, 2), clarity);
        } else {
            due.refused("stone of " + weight + ", " + colour + ", " + clarity, gems,
                    () -> gems.stone(0, weight, colour, clarity), Due.INVALID);
        }
    }

    private static void stone() {
        due.sentence("Promise 3", "Brings a stone, which a dealer owns and holds");
        GemMemos gems = Due.withDealers(6);
        due.is("the first dealer's", gems.stone(0, 1, 0, 0), 0);
        due.is("the last dealer's", gems.stone(5, 1, 0, 0), 1);
        due.is("owner", gems.stoneOf(1, 4), 5);
        due.is("holder", gems.stoneOf(1, 5), 5);
        due.is("not out", gems.stoneOf(1, 7), Due.NOT_FOUND);
        due.is("never kept", gems.stoneOf(1, 10), 0);
        due.sentence("Promise 3", "number of the dealer");
        for (int dealers = 0; dealers <= 6; dealers += 3) {
            GemMemos some = Due.withDealers(dealers);
            for (int none : Due.noneOf(dealers)) {
                due.refused("dealer " + none + " of " + dealers, some,
                        () -> some.stone(none, 1, 0, 0), Due.INVALID);
            }
        }
        due.sentence("Promise 3", "`weight`: 1 to 999");
        int[] weights = {MIN, -999, -1, 0, 1, 999, 1000, 65537, MAX};
        for (int weight : weights) {
            dueStone(weight, 0, 0, weight >= 1 && weight <= 999);
        }
        due.sentence("Promise 3", "`colour`: 0 to 9");
        dueStone(5, 0, 7, true);
        dueStone(5, 9, 7, true);
        for (int no : NO_COLOURS) {
            dueStone(5, no, 7, false);
        }
        due.sentence("Promise 3", "`clarity`: 0 to 7");
        dueStone(5, 9, 0, true);
        dueStone(5, 9, 7, true);
        for (int no : NO_CLARITIES) {
            dueStone(5, 9, no, false);
        }
    }

    private static void stoneLimit() {
        due.sentence("Promise 3", "LIMIT_REACHED if there are 20 (sold ones count)");
        GemMemos gems = Markets.twentyStones(100);
        due.is("there are", gems.count(1), 20);
        due.refused("the 21st", gems, () -> gems.stone(0, 5, 0, 0), Due.LIMIT);
        for (int i = 0; i < 20; i++) {
            gems.sell(i, 1);
        }
        due.refused("all sold", gems, () -> gems.stone(0, 5, 0, 0), Due.LIMIT);
        due.refused("no such dealer", gems, () -> gems.stone(2, 5, 0, 0), Due.INVALID);
        due.refused("too light", gems, () -> gems.stone(0, 0, 0, 0), Due.INVALID);
        due.refused("too heavy", gems, () -> gems.stone(0, 1000, 0, 0), Due.INVALID);
        due.refused("no such colour", gems, () -> gems.stone(0, 5, 10, 0), Due.INVALID);
        due.refused("no such clarity", gems, () -> gems.stone(0, 5, 0, 8), Due.INVALID);
        GemMemos other = Markets.twentyStones(100);
        other.undo();
        due.is("the 20th again", other.stone(1, 7, 1, 1), 19);
        due.is("it is the new one", other.stoneOf(19, 0), 7);
        due.refused("the 21st", other, () -> other.stone(0, 5, 0, 0), Due.LIMIT);
    }

    private static void rate() {
        due.sentence("Promise 4", "Returns what it was, 0 if there was none");
        GemMemos gems = new GemMemos();
        due.is("none", gems.rate(0, 0, 0, 1), 0);
        due.is("least", gems.rate(0, 0, 0, 9999), 1);
        due.is("greatest", gems.rate(0, 0, 0, 9999), 9999);
        due.is("a worse one", gems.rate(0, 0, 1, 5), 0);
        due.is("unrate", gems.unrate(0, 0, 0), 9999);
        due.is("none again, but a worse one", gems.rate(0, 0, 0, 3), 0);
        due.is("the first grade", gems.rate(0, 0, 0, 2), 3);
        due.is("the last grade", gems.rate(4, 9, 7, 2), 0);
        due.sentence("Promise 4", "`sieve`: 0 to 4");
        for (int no : NO_SIEVES) {
            due.refused("sieve " + no, gems, () -> gems.rate(no, 0, 0, 5), Due.INVALID);
        }
        due.sentence("Promise 4", "`colour`: 0 to 9");
        for (int no : NO_COLOURS) {
            due.refused("colour " + no, gems, () -> gems.rate(2, no, 3, 5), Due.INVALID);
        }
        due.sentence("Promise 4", "`clarity`: 0 to 7");
        for (int no : NO_CLARITIES) {
            due.refused("clarity " + no, gems, () -> gems.rate(2, 3, no, 5), Due.INVALID);
        }
        due.sentence("Promise 4", "`coins`: 1 to 9999");
        int[] bad = {MIN, -9999, -1, 0, 10000, 65537, MAX};
        for (int coins : bad) {
            due.refused("new for " + coins, gems, () -> gems.rate(1, 1, 1, coins), Due.INVALID);
            due.refused("for " + coins, gems, () -> gems.rate(0, 0, 0, coins), Due.INVALID);
        }
        due.is("1 is none of them", gems.rate(1, 1, 1, 1), 0);
        due.is("nor is 9999", gems.rate(1, 1, 1, 9999), 1);
        due.is("it is set", gems.rateOf(1, 1, 1, 1), 9999);
    }

    private static void rateLimit() {
        due.sentence("Promise 4", "LIMIT_REACHED if there was none, and there are 24");
        GemMemos gems = new GemMemos();
        for (int i = 0; i < 24; i++) {
            due.is("rate", gems.rate(4, 9 - i % 10, 7 - i / 10, 10 + i), 0);
        }
        due.refused("the 25th", gems, () -> gems.rate(0, 0, 0, 5), Due.LIMIT);
        due.refused("though a worse one is there", gems, () -> gems.rate(4, 0, 0, 5), Due.LIMIT);
        due.refused("bad sieve", gems, () -> gems.rate(5, 0, 0, 5), Due.INVALID);
        due.refused("bad coins", gems, () -> gems.rate(0, 0, 0, 0), Due.INVALID);
        due.is("the first one that there is", gems.rate(4, 9, 7, 5), 10);
        due.is("the last one that there is", gems.rate(4, 6, 5, 6), 33);
        due.is("there are", gems.count(6), 24);
        gems.unrate(4, 5, 7);
        due.is("there are", gems.count(6), 23);
        due.is("the 24th", gems.rate(0, 0, 0, 5), 0);
        due.refused("the 25th", gems, () -> gems.rate(4, 5, 7, 5), Due.LIMIT);
        gems.undo();
        due.is("another 24th", gems.rate(4, 5, 7, 5), 0);
    }

    private static void unrate() {
        GemMemos gems = new GemMemos();
        gems.rate(0, 0, 0, 1);
        gems.rate(4, 9, 7, 9999);
        due.sentence("Promise 5", "`sieve`: 0 to 4");
        for (int no : NO_SIEVES) {
            due.refused("sieve " + no, gems, () -> gems.unrate(no, 0, 0), Due.INVALID);
        }
        due.sentence("Promise 5", "`colour`: 0 to 9");
        for (int no : NO_COLOURS) {
            due.refused("colour " + no, gems, () -> gems.unrate(0, no, 0), Due.INVALID);
        }
        due.sentence("Promise 5", "`clarity`: 0 to 7");
        for (int no : NO_CLARITIES) {
            due.refused("clarity " + no, gems, () -> gems.unrate(0, 0, no), Due.INVALID);
        }
        due.sentence("Promise 5", "Returns what it was");
        due.is("the first grade", gems.unrate(0, 0, 0), 1);
        due.is("the last grade", gems.unrate(4, 9, 7), 9999);
        due.sentence("Promise 5", "NOT_POSSIBLE if there is none");
        due.refused("twice", gems, () -> gems.unrate(4, 9, 7), Due.NOT_POSSIBLE);
        due.refused("an empty list", gems, () -> gems.unrate(0, 0, 0), Due.NOT_POSSIBLE);
        gems.rate(2, 2, 2, 40);
        due.refused("a worse one alone", gems, () -> gems.unrate(2, 1, 1), Due.NOT_POSSIBLE);
        due.refused("another sieve", gems, () -> gems.unrate(3, 2, 2), Due.NOT_POSSIBLE);
        due.refused("another colour", gems, () -> gems.unrate(2, 3, 2), Due.NOT_POSSIBLE);
        due.refused("another clarity", gems, () -> gems.unrate(2, 2, 3), Due.NOT_POSSIBLE);
        due.is("the one that there is", gems.unrate(2, 2, 2), 40);
        due.is("there are", gems.count(6), 0);
    }

    private static void lendArguments() {
        GemMemos gems = Markets.small();
        due.sentence("Promise 6", "`from`: number of the dealer who lends");
        for (int none : Due.noneOf(3)) {
            due.refused("from " + none, gems, () -> gems.lend(none, 1, 5, 1), Due.INVALID);
        }
        due.sentence("Promise 6", "`to`: number of another dealer");
        for (int none : Due.noneOf(3)) {
            due.refused("to " + none, gems, () -> gems.lend(0, none, 5, 1), Due.INVALID);
        }
        due.sentence("Promise 6", "both dealers are the same");
        due.refused("both the same", gems, () -> gems.lend(0, 0, 5, 1), Due.INVALID);
        due.refused("both the same", gems, () -> gems.lend(2, 2, 5, 1), Due.INVALID);
        due.sentence("Promise 6", "`days`: 1 to 90: the last day is as many days from now");
        int[] bad = {MIN, -90, -1, 0, 91, 257, MAX};
        for (int days : bad) {
            due.refused("for " + days, gems, () -> gems.lend(0, 1, days, 1), Due.INVALID);
        }
        Markets.until(gems, 2000);
        due.is("for 1", gems.lend(0, 1, 1, 1), 0);
        due.is("last day", gems.memoOf(0, 2), 2001);
        due.is("for 90", gems.lend(0, 2, 90, 2), 1);
        due.is("last day", gems.memoOf(1, 2), 2090);
        due.is("days until then", gems.memoOf(1, 7), 90);
        due.sentence("Promise 6", "`stones`: a set of stones, not empty");
        due.refused("empty", gems, () -> gems.lend(0, 1, 5, 0), Due.INVALID);
        due.sentence("Promise 6", "or there is no such stone");
        int[] none = {1 << 5, 1 << 5 | 4, 1 << 19, 1 << 20, 1 << 30, MIN, MIN | 4, -1, MAX, 4 - 32};
        for (int set : none) {
            due.refused("set " + set, gems, () -> gems.lend(0, 1, 5, set), Due.INVALID);
        }
        due.is("the set that is left", gems.lend(0, 1, 5, 12), 2);
        GemMemos many = Markets.twentyStones(100);
        many.rate(4, 5, 5, 1);
        due.refused("the 21st of 20", many, () -> many.lend(0, 1, 5, 1 << 20), Due.INVALID);
        due.refused("all and the 21st", many, () -> many.lend(0, 1, 5, (1 << 21) - 1), Due.INVALID);
        due.is("all 20", many.lend(0, 1, 5, (1 << 20) - 1), 0);
        due.is("out", many.count(3), 20);
    }

    private static void lendRefusals() {
        due.sentence("Promise 6", "NOT_POSSIBLE if one of them is not both owned and held by the "
                + "one who lends");
        GemMemos gems = Markets.small();
        due.refused("another's", gems, () -> gems.lend(0, 1, 5, 16), Due.NOT_POSSIBLE);
        due.refused("the last one another's", gems, () -> gems.lend(0, 1, 5, 31), Due.NOT_POSSIBLE);
        due.refused("the first ones another's", gems, () -> gems.lend(1, 0, 5, 31),
                Due.NOT_POSSIBLE);
        gems.lend(0, 1, 5, 2);
        due.refused("owned, not held", gems, () -> gems.lend(0, 2, 5, 2), Due.NOT_POSSIBLE);
        due.refused("one owned, not held", gems, () -> gems.lend(0, 2, 5, 7), Due.NOT_POSSIBLE);
        due.refused("held, not owned", gems, () -> gems.lend(1, 2, 5, 2), Due.NOT_POSSIBLE);
        gems.sell(3, 5);
        due.refused("sold", gems, () -> gems.lend(0, 1, 5, 8), Due.NOT_POSSIBLE);
        due.refused("one sold", gems, () -> gems.lend(0, 1, 5, 9), Due.NOT_POSSIBLE);
        due.refused("not another", gems, () -> gems.lend(0, 0, 5, 16), Due.INVALID);
        due.refused("no days", gems, () -> gems.lend(0, 1, 0, 16), Due.INVALID);
        due.refused("no such stone too", gems, () -> gems.lend(0, 1, 5, 48), Due.INVALID);
        due.is("the one who can", gems.lend(0, 1, 5, 1), 1);
        due.sentence("Promise 6", "or has no price");
        GemMemos two = Due.withDealers(2);
        two.stone(0, 100, 5, 5);
        two.stone(0, 99, 5, 5);
        two.stone(0, 100, 5, 6);
        two.rate(4, 5, 5, 1);
        due.refused("another sieve", two, () -> two.lend(0, 1, 5, 2), Due.NOT_POSSIBLE);
        due.refused("a worse clarity", two, () -> two.lend(0, 1, 5, 4), Due.NOT_POSSIBLE);
        due.refused("one of three", two, () -> two.lend(0, 1, 5, 7), Due.NOT_POSSIBLE);
        two.rate(3, 9, 7, 1);
        due.is("a price of 0, by a worse entry", two.lend(0, 1, 5, 3), 0);
        due.is("asked", two.stoneOf(1, 8), 0);
    }

    private static void lendLimit() {
        due.sentence("Promise 6", "LIMIT_REACHED if there are 10 memos");
        GemMemos gems = Markets.tenMemos();
        due.refused("the 11th", gems, () -> gems.lend(0, 1, 5, 1), Due.LIMIT);
        due.refused("of another", gems, () -> gems.lend(1, 0, 5, 16), Due.LIMIT);
        due.refused("another's", gems, () -> gems.lend(0, 1, 5, 16), Due.NOT_POSSIBLE);
        due.refused("no such stone", gems, () -> gems.lend(0, 1, 5, 32), Due.INVALID);
        gems.unrate(4, 5, 5);
        due.refused("no price", gems, () -> gems.lend(0, 1, 5, 1), Due.NOT_POSSIBLE);
        due.sentence("Promise 6", "Returns the number of the memo");
        for (int i = 0; i < 3; i++) {
            gems.undo();
        }
        due.is("the 10th again", gems.lend(0, 2, 7, 6), 9);
        due.is("it is the new one", gems.memoOf(9, 4), 6);
        due.is("the one ahead of it", gems.memoOf(8, 4), 1);
    }

    private static void back() {
        due.sentence("Promise 7", "Returns how many stones are still out by its memo");
        GemMemos gems = Markets.lent();
        gems.lend(0, 2, 5, 8);
        due.is("two more", gems.back(2), 2);
        due.is("one more", gems.back(0), 1);
        due.is("none, though another memo's is", gems.back(1), 0);
        due.is("the other memo's", gems.back(3), 0);
        due.sentence("Promise 7", "NOT_POSSIBLE if it is not out");
        due.refused("given back", gems, () -> gems.back(1), Due.NOT_POSSIBLE);
        due.refused("never out", gems, () -> gems.back(4), Due.NOT_POSSIBLE);
        gems.sell(4, 5);
        due.refused("sold", gems, () -> gems.back(4), Due.NOT_POSSIBLE);
        GemMemos other = Markets.lent();
        other.keep(0);
        due.refused("kept", other, () -> other.back(0), Due.NOT_POSSIBLE);
        other.pause(9);
        due.refused("kept as a late one", other, () -> other.back(1), Due.NOT_POSSIBLE);
        due.sentence("Promise 7", "number of the stone");
        for (int none : Due.noneOf(5)) {
            due.refused("stone " + none, other, () -> other.back(none), Due.INVALID);
        }
    }

    private static void keep() {
        due.sentence("Promise 8", "for its asked price alone");
        GemMemos gems = Markets.lent();
        gems.set(1, 100);
        gems.rate(4, 5, 5, 9000);
        gems.pause(8);
        due.is("past its last day, dearer by now", gems.keep(2), 300);
        due.is("paid", gems.dealerOf(1, 0), Due.BASE - 300);
        due.is("the others stay", gems.memoOf(0, 3), 3);
        due.sentence("Promise 8", "NOT_POSSIBLE if it is not out");
        due.refused("kept", gems, () -> gems.keep(2), Due.NOT_POSSIBLE);
        due.refused("never out", gems, () -> gems.keep(4), Due.NOT_POSSIBLE);
        gems.back(0);
        due.refused("given back", gems, () -> gems.keep(0), Due.NOT_POSSIBLE);
        gems.pause(1);
        due.refused("kept as a late one", gems, () -> gems.keep(1), Due.NOT_POSSIBLE);
        gems.sell(4, 5);
        due.refused("sold", gems, () -> gems.keep(4), Due.NOT_POSSIBLE);
        due.sentence("Promise 8", "number of the stone");
        for (int none : Due.noneOf(5)) {
            due.refused("stone " + none, gems, () -> gems.keep(none), Due.INVALID);
        }
        due.sentence("Promise 8", "Returns what is paid");
        GemMemos dear = Due.withDealers(2);
        dear.stone(0, 999, 0, 0);
        dear.stone(0, 100, 1, 0);
        dear.rate(4, 0, 0, 9999);
        dear.rate(4, 1, 0, 1);
        dear.lend(0, 1, 5, 3);
        due.is("the greatest price", dear.keep(0), 99890);
        due.is("a price of 1", dear.keep(1), 1);
    }

    private static void sell() {
        due.sentence("Promise 9", "Returns the balance of its owner then, plus 100000000");
        GemMemos gems = Markets.lent();
        gems.keep(2);
        due.is("yet below 0", gems.sell(2, 299), Due.BASE - 1);
        due.is("above 0", gems.sell(4, 2), Due.BASE + 1);
        due.is("another's", gems.sell(3, 1), Due.BASE + 301);
        due.sentence("Promise 9", "`coins`: 1 to 9999");
        GemMemos some = Markets.small();
        int[] bad = {MIN, -9999, -1, 0, 10000, 65537, MAX};
        for (int coins : bad) {
            due.refused("for " + coins, some, () -> some.sell(0, coins), Due.INVALID);
        }
        due.is("for 1", some.sell(0, 1), Due.BASE + 1);
        due.is("for 9999", some.sell(1, 9999), Due.BASE + 10000);
        due.is("it is told", some.stoneOf(1, 9), 9999);
        some.unrate(4, 5, 5);
        due.is("without a price", some.sell(2, 7), Due.BASE + 10007);
        due.sentence("Promise 9", "number of the stone");
        for (int none : Due.noneOf(5)) {
            due.refused("stone " + none, some, () -> some.sell(none, 5), Due.INVALID);
        }
    }

    private static void sellRefusals() {
        due.sentence("Promise 9", "NOT_POSSIBLE if it is out, or sold");
        GemMemos gems = Markets.lent();
        due.refused("out", gems, () -> gems.sell(0, 5), Due.NOT_POSSIBLE);
        due.refused("out, for nothing", gems, () -> gems.sell(0, 0), Due.INVALID);
        gems.sell(3, 5);
        due.refused("sold", gems, () -> gems.sell(3, 5), Due.NOT_POSSIBLE);
        due.refused("sold, for too much", gems, () -> gems.sell(3, 10000), Due.INVALID);
        gems.back(0);
        due.is("given back", gems.sell(0, 5), Due.BASE + 10);
        gems.keep(1);
        due.is("kept: the new owner's", gems.sell(1, 5), Due.BASE - 195);
        gems.pause(9);
        due.is("kept as a late one", gems.sell(2, 5), Due.BASE - 195 - 330 + 5);
    }

    private static void grade() {
        due.sentence("Promise 10", "Returns 10 times its colour plus its clarity, as they were");
        GemMemos gems = Markets.small();
        due.is("5, 5", gems.grade(0, 0, 0), 55);
        due.is("0, 0", gems.grade(0, 9, 7), 0);
        due.is("9, 7", gems.grade(0, 9, 7), 97);
        due.is("9, 7, the same", gems.grade(0, 0, 7), 97);
        due.is("0, 7", gems.grade(0, 9, 0), 7);
        due.is("9, 0", gems.grade(0, 5, 5), 90);
        due.sentence("Promise 10", "`colour`: 0 to 9");
        for (int no : NO_COLOURS) {
            due.refused("colour " + no, gems, () -> gems.grade(0, no, 0), Due.INVALID);
        }
        due.sentence("Promise 10", "`clarity`: 0 to 7");
        for (int no : NO_CLARITIES) {
            due.refused("clarity " + no, gems, () -> gems.grade(0, 0, no), Due.INVALID);
        }
        due.sentence("Promise 10", "number of the stone");
        for (int none : Due.noneOf(5)) {
            due.refused("stone " + none, gems, () -> gems.grade(none, 0, 0), Due.INVALID);
        }
        due.sentence("Promise 10", "NOT_POSSIBLE if it is sold");
        gems.lend(0, 1, 5, 1);
        due.is("out", gems.grade(0, 4, 4), 55);
        due.is("without a price", gems.grade(1, 9, 7), 55);
        gems.sell(2, 5);
        due.refused("sold", gems, () -> gems.grade(2, 0, 0), Due.NOT_POSSIBLE);
        due.refused("sold, the same", gems, () -> gems.grade(2, 5, 5), Due.NOT_POSSIBLE);
        due.refused("sold, no colour", gems, () -> gems.grade(2, 10, 5), Due.INVALID);
    }

    private static void pause() {
        due.sentence("Promise 11", "`days`: 1 to 99");
        GemMemos gems = Markets.lent();
        int[] bad = {MIN, -99, -1, 0, 100, 257, MAX};
        for (int days : bad) {
            due.refused("for " + days, gems, () -> gems.pause(days), Due.INVALID);
        }
        due.is("for 1", gems.pause(1), 0);
        due.is("time", gems.count(7), 1);
        due.sentence("Promise 11", "Returns how many stones are kept as late ones in them");
        gems.lend(0, 2, 90, 8);
        gems.back(0);
        gems.keep(1);
        due.is("for 99: neither given back nor kept ones", gems.pause(99), 2);
        due.is("time", gems.count(7), 100);
        due.is("none is left", gems.pause(99), 0);
        GemMemos some = Markets.small();
        some.lend(0, 1, 1, 1);
        some.lend(0, 1, 2, 6);
        some.lend(0, 1, 3, 8);
        due.is("of one day", some.pause(5), 1);
        due.is("of two days", some.pause(2), 3);
        due.is("late so far", some.count(10), 4);
    }

    private static void pauseLimit() {
        due.sentence("Promise 11", "LIMIT_REACHED if the time would be above 2000");
        GemMemos gems = Markets.until(Markets.small(), 1901);
        due.is("for 99, to 2000", gems.pause(99), 0);
        due.is("time", gems.count(7), 2000);
        due.refused("for 1, to 2001", gems, () -> gems.pause(1), Due.LIMIT);
        due.refused("for 99", gems, () -> gems.pause(99), Due.LIMIT);
        due.refused("for 0", gems, () -> gems.pause(0), Due.INVALID);
        due.refused("for 100", gems, () -> gems.pause(100), Due.INVALID);
        GemMemos late = Markets.until(Markets.small(), 1902);
        late.lend(0, 1, 1, 7);
        due.refused("for 99, to 2001: none is kept", late, () -> late.pause(99), Due.LIMIT);
        due.is("for 98, to 2000", late.pause(98), 3);
    }

    private static void set() {
        due.sentence("Promise 12", "`what`: 0 or 1");
        GemMemos gems = new GemMemos();
        int[] none = {MIN, -2, -1, 2, 3, MAX};
        for (int what : none) {
            due.refused("set " + what, gems, () -> gems.set(what, 5), Due.INVALID);
        }
        due.sentence("Promise 12", "a value in its range");
        int[] bad = {MIN, -30, -1, 31, 100, MAX};
        for (int value : bad) {
            due.refused("set 0 to " + value, gems, () -> gems.set(0, value), Due.INVALID);
        }
        bad = new int[] {MIN, -100, -1, 101, MAX};
        for (int value : bad) {
            due.refused("set 1 to " + value, gems, () -> gems.set(1, value), Due.INVALID);
        }
        due.sentence("Promise 12", "Returns what it was");
        due.is("set 0", gems.set(0, 30), 3);
        due.is("set 1 to 31", gems.set(1, 31), 10);
        due.is("set 1", gems.set(1, 100), 31);
        due.is("set 0", gems.set(0, 0), 30);
        due.is("set 1", gems.set(1, 0), 100);
        due.is("set 0", gems.set(0, 0), 0);
        due.is("set 1", gems.set(1, 0), 0);
    }
}
