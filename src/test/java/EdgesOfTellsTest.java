/** Promises 13 to 20, one after the other: each sentence that names an edge. */
public final class EdgesOfTellsTest {
    private static final int MIN = Integer.MIN_VALUE;
    private static final int MAX = Integer.MAX_VALUE;
    private static final Due due = new Due();

    public static void main(String[] args) {
        stoneOfArguments();
        stoneOf();
        stoneOfOut();
        dealerOfArguments();
        dealerOf();
        memoOfArguments();
        memoOf();
        rateOf();
        countArguments();
        count();
        bestArguments();
        best();
        pairArguments();
        pair();
        grades();
        due.end();
    }

    private static void stoneOfArguments() {
        due.sentence("Promise 13", "number of the stone");
        GemMemos gems = Markets.small();
        for (int none : Due.noneOf(5)) {
            due.is("stone " + none, gems.stoneOf(none, 0), Due.INVALID);
            due.is("stone " + none + ", no memo", gems.stoneOf(none, 7), Due.INVALID);
        }
        due.sentence("Promise 13", "INVALID_ARGUMENT if an argument is out of range");
        int[] bad = {MIN, -2, -1, 11, 12, 256, MAX};
        for (int what : bad) {
            due.is("what " + what, gems.stoneOf(0, what), Due.INVALID);
            due.is("what " + what + " of the last", gems.stoneOf(4, what), Due.INVALID);
        }
        due.is("0 is none of them", gems.stoneOf(0, 0), 100);
        due.is("nor is 10", gems.stoneOf(0, 10), 0);
        GemMemos many = Markets.twentyStones(7);
        due.is("the last one of 20", many.stoneOf(19, 0), 7);
        due.is("one more", many.stoneOf(20, 0), Due.INVALID);
    }

    private static void stoneOf() {
        due.sentence("Promise 13", "NOT_FOUND for 4 and 5 if it is sold");
        GemMemos gems = Markets.small();
        due.is("owner", gems.stoneOf(4, 4), 1);
        due.is("holder", gems.stoneOf(4, 5), 1);
        due.sentence("Promise 13", "for 9 if it is not sold");
        due.is("not sold", gems.stoneOf(4, 9), Due.NOT_FOUND);
        gems.sell(4, 1);
        due.is("sold for", gems.stoneOf(4, 9), 1);
        due.sentence("Promise 13", "NOT_FOUND for 4 and 5 if it is sold");
        due.is("no owner", gems.stoneOf(4, 4), Due.NOT_FOUND);
        due.is("no holder", gems.stoneOf(4, 5), Due.NOT_FOUND);
        due.is("the dealer 0's stay", gems.stoneOf(0, 4), 0);
        due.sentence("Promise 13", "for 6 if there is no rate");
        due.is("a sold one has a rate", gems.stoneOf(4, 6), 500);
        gems.unrate(4, 5, 5);
        due.is("a sold one, no rate", gems.stoneOf(4, 6), Due.NOT_FOUND);
        due.is("no rate", gems.stoneOf(0, 6), Due.NOT_FOUND);
        gems.stone(0, 99, 5, 5);
        gems.rate(3, 6, 6, 1);
        due.is("a price of 0", gems.stoneOf(5, 6), 0);
        due.is("another sieve", gems.stoneOf(0, 6), Due.NOT_FOUND);
        due.sentence("Promise 13", "how often it was kept so far");
        gems = Markets.lent();
        due.is("not yet", gems.stoneOf(0, 10), 0);
        gems.keep(0);
        due.is("once", gems.stoneOf(0, 10), 1);
        gems.lend(1, 0, 1, 1);
        gems.back(0);
        due.is("given back is not kept", gems.stoneOf(0, 10), 1);
        gems.lend(1, 2, 1, 1);
        gems.pause(5);
        due.is("twice, as a late one", gems.stoneOf(0, 10), 2);
        gems.sell(0, 5);
        due.is("sold", gems.stoneOf(0, 10), 2);
    }

    private static void stoneOfOut() {
        due.sentence("Promise 13", "for 7 and 8 if it is not out");
        GemMemos gems = Markets.lent();
        gems.lend(0, 2, 5, 8);
        due.is("memo 0", gems.stoneOf(0, 7), 0);
        due.is("asked", gems.stoneOf(0, 8), 100);
        due.is("memo 1", gems.stoneOf(3, 7), 1);
        due.is("never out", gems.stoneOf(4, 7), Due.NOT_FOUND);
        due.is("never out", gems.stoneOf(4, 8), Due.NOT_FOUND);
        gems.back(0);
        due.is("given back", gems.stoneOf(0, 7), Due.NOT_FOUND);
        due.is("given back", gems.stoneOf(0, 8), Due.NOT_FOUND);
        gems.keep(1);
        due.is("kept", gems.stoneOf(1, 7), Due.NOT_FOUND);
        due.is("kept", gems.stoneOf(1, 8), Due.NOT_FOUND);
        gems.pause(9);
        due.is("kept as a late one", gems.stoneOf(2, 7), Due.NOT_FOUND);
        due.is("kept as a late one", gems.stoneOf(2, 8), Due.NOT_FOUND);
        gems.sell(2, 5);
        due.is("sold", gems.stoneOf(2, 8), Due.NOT_FOUND);
        gems.lend(0, 1, 5, 1);
        due.is("out again", gems.stoneOf(0, 7), 2);
    }

    private static void dealerOfArguments() {
        due.sentence("Promise 14", "number of the dealer");
        for (int dealers = 0; dealers <= 6; dealers += 3) {
            GemMemos gems = Due.withDealers(dealers);
            for (int none : Due.noneOf(dealers)) {
                due.is("dealer " + none, gems.dealerOf(none, 0), Due.INVALID);
            }
        }
        due.sentence("Promise 14", "INVALID_ARGUMENT if an argument is out of range");
        GemMemos gems = Due.withDealers(6);
        int[] bad = {MIN, -2, -1, 6, 7, 256, MAX};
        for (int what : bad) {
            due.is("what " + what, gems.dealerOf(5, what), Due.INVALID);
        }
        for (int what = 0; what < 6; what++) {
            due.is("what " + what, gems.dealerOf(5, what), what == 0 ? Due.BASE : 0);
        }
    }

    private static void dealerOf() {
        due.sentence("Promise 14", "the balance, plus 100000000");
        GemMemos gems = Markets.lent();
        gems.keep(0);
        due.is("below 0", gems.dealerOf(1, 0), Due.BASE - 100);
        due.is("above 0", gems.dealerOf(0, 0), Due.BASE + 100);
        due.is("none", gems.dealerOf(2, 0), Due.BASE);
        due.sentence("Promise 14", "the stones that the dealer owns, as a set");
        due.is("lent ones too", gems.dealerOf(0, 1), 14);
        due.is("the kept one too", gems.dealerOf(1, 1), 17);
        due.is("no stone", gems.dealerOf(2, 1), 0);
        due.sentence("Promise 14", "those that the dealer holds, as a set");
        due.is("lent ones not", gems.dealerOf(0, 2), 8);
        due.is("lent ones", gems.dealerOf(1, 2), 23);
        due.is("no stone", gems.dealerOf(2, 2), 0);
        due.sentence("Promise 14", "the prices of the owned ones together (those without a price "
                + "count 0)");
        gems.grade(3, 9, 7);
        due.is("one without", gems.dealerOf(0, 3), 500);
        gems.unrate(4, 5, 5);
        due.is("all without", gems.dealerOf(0, 3), 0);
        due.is("no stone", gems.dealerOf(2, 3), 0);
        gems.rate(4, 9, 7, 9999);
        due.is("by a worse entry", gems.dealerOf(0, 3), 19998 + 29997 + 39996);
        due.sentence("Promise 14", "the asked prices of those that are out to the dealer, "
                + "together");
        due.is("none", gems.dealerOf(0, 4), 0);
        due.is("without the kept one, not of now", gems.dealerOf(1, 4), 500);
        due.sentence("Promise 14", "the asked prices of those that the dealer lent and that are "
                + "out, together");
        due.is("without the kept one, not of now", gems.dealerOf(0, 5), 500);
        due.is("none", gems.dealerOf(1, 5), 0);
        gems.lend(1, 2, 5, 16);
        due.is("of two who lend", gems.dealerOf(1, 5), 49995);
        gems.pause(9);
        due.is("none is out: to", gems.dealerOf(1, 4), 0);
        due.is("none is out: lent", gems.dealerOf(0, 5), 0);
        gems = Markets.twentyStones(999);
        gems.rate(4, 5, 5, 9999);
        due.is("20 of the greatest price", gems.dealerOf(0, 3), 20 * 99890);
        gems.lend(0, 1, 5, (1 << 20) - 1);
        due.is("all out", gems.dealerOf(0, 5), 20 * 99890);
    }

    private static void memoOfArguments() {
        due.sentence("Promise 15", "number of the memo");
        GemMemos none = Markets.small();
        for (int memo : Due.noneOf(0)) {
            due.is("memo " + memo + " of none", none.memoOf(memo, 0), Due.INVALID);
        }
        GemMemos ten = Markets.tenMemos();
        for (int memo : Due.noneOf(10)) {
            due.is("memo " + memo + " of 10", ten.memoOf(memo, 0), Due.INVALID);
        }
        due.is("the last one of 10", ten.memoOf(9, 1), 1);
        due.sentence("Promise 15", "INVALID_ARGUMENT if an argument is out of range");
        int[] bad = {MIN, -2, -1, 8, 9, 256, MAX};
        for (int what : bad) {
            due.is("what " + what, ten.memoOf(9, what), Due.INVALID);
        }
    }

    private static void dueMemo(String when, GemMemos gems, int... dues) {
        for (int what = 0; what < dues.length; what++) {
            due.is(when + ", what " + what, gems.memoOf(0, what), dues[what]);
        }
    }

    private static void memoOf() {
        due.sentence("Promise 15", "7: the days until its last day, 0 if that was");
        GemMemos gems = Markets.lent();
        dueMemo("on its first day", gems, 0, 1, 5, 7, 7, 0, 1, 5);
        gems.pause(4);
        dueMemo("a day ahead", gems, 0, 1, 5, 7, 7, 0, 1, 1);
        gems.pause(1);
        dueMemo("on its last day", gems, 0, 1, 5, 7, 7, 0, 1, 0);
        gems.pause(1);
        dueMemo("a day past", gems, 0, 1, 5, 7, 7, 0, 1, 0);
        due.sentence("Promise 15", "3: the stones that are out by it, as a set; 4: all of its "
                + "stones, as a set; 5: how many of them were kept so far");
        gems.back(1);
        dueMemo("one given back", gems, 0, 1, 5, 5, 7, 0, 1, 0);
        gems.keep(0);
        dueMemo("one kept", gems, 0, 1, 5, 4, 7, 1, 1, 0);
        due.sentence("Promise 15", "6: 1 if it is open, otherwise 0");
        gems.pause(3);
        dueMemo("the last one late", gems, 0, 1, 5, 0, 7, 2, 0, 0);
        gems.lend(1, 2, 5, 5);
        dueMemo("its stones out by another", gems, 0, 1, 5, 0, 7, 2, 0, 0);
        gems = Markets.lent();
        gems.back(0);
        gems.back(1);
        gems.back(2);
        dueMemo("closed early", gems, 0, 1, 5, 0, 7, 0, 0, 5);
        gems.lend(0, 2, 8, 3);
        gems.keep(0);
        dueMemo("one kept by a later memo", gems, 0, 1, 5, 0, 7, 0, 0, 5);
        due.is("kept by the later one", gems.memoOf(1, 5), 1);
    }

    private static void rateOf() {
        GemMemos gems = new GemMemos();
        gems.rate(0, 0, 0, 1);
        gems.rate(4, 9, 7, 9999);
        for (int own = 0; own <= 1; own++) {
            due.sentence("Promise 16", "`sieve`: 0 to 4");
            for (int no : new int[] {MIN, -1, 5, 6, MAX}) {
                due.is("sieve " + no, gems.rateOf(no, 0, 0, own), Due.INVALID);
            }
            due.sentence("Promise 16", "`colour`: 0 to 9");
            for (int no : new int[] {MIN, -1, 10, 11, MAX}) {
                due.is("colour " + no, gems.rateOf(0, no, 0, own), Due.INVALID);
            }
            due.sentence("Promise 16", "`clarity`: 0 to 7");
            for (int no : new int[] {MIN, -1, 8, 9, MAX}) {
                due.is("clarity " + no, gems.rateOf(0, 0, no, own), Due.INVALID);
            }
        }
        due.sentence("Promise 16", "INVALID_ARGUMENT if an argument is out of range");
        for (int own : new int[] {MIN, -1, 2, 3, MAX}) {
            due.is("own " + own, gems.rateOf(0, 0, 0, own), Due.INVALID);
            due.is("own " + own + ", none", gems.rateOf(1, 0, 0, own), Due.INVALID);
        }
        due.sentence("Promise 16", "1: that of its entry alone; 0: also by a worse entry");
        due.is("its own", gems.rateOf(0, 0, 0, 1), 1);
        due.is("its own", gems.rateOf(0, 0, 0, 0), 1);
        due.is("its own", gems.rateOf(4, 9, 7, 1), 9999);
        due.is("its own", gems.rateOf(4, 9, 7, 0), 9999);
        due.is("a worse one", gems.rateOf(4, 0, 0, 0), 9999);
        due.sentence("Promise 16", "NOT_FOUND if there is none");
        due.is("a worse one alone", gems.rateOf(4, 0, 0, 1), Due.NOT_FOUND);
        due.is("a worse one alone", gems.rateOf(4, 9, 6, 1), Due.NOT_FOUND);
        due.is("a better one alone", gems.rateOf(0, 0, 1, 0), Due.NOT_FOUND);
        due.is("none", gems.rateOf(2, 0, 0, 0), Due.NOT_FOUND);
        due.is("none", gems.rateOf(2, 0, 0, 1), Due.NOT_FOUND);
    }

    private static void countArguments() {
        due.sentence("Promise 17", "INVALID_ARGUMENT if what is out of range");
        GemMemos gems = Markets.small();
        int[] bad = {MIN, -2, -1, 16, 17, 256, MAX};
        for (int what : bad) {
            due.is("count(" + what + ")", gems.count(what), Due.INVALID);
        }
        due.is("0 is none of them", gems.count(0), 3);
        due.is("nor is 15", gems.count(15), 10);
    }

    private static void count() {
        due.sentence("Promise 17", "stones, sold ones too");
        GemMemos gems = Markets.lent();
        gems.sell(3, 30);
        gems.sell(4, 9);
        due.is("stones", gems.count(1), 5);
        GemMemos first = Markets.small();
        first.sell(0, 1);
        due.is("the first one is sold", first.count(2), 1);
        due.is("for", first.count(9), 1);
        first = Markets.small();
        first.lend(0, 1, 5, 1);
        due.is("the first one is out", first.count(3), 1);
        due.is("the first memo is open", first.count(5), 1);
        due.sentence("Promise 17", "2: sold ones; 3: those that are out");
        due.is("sold", gems.count(2), 2);
        due.is("out", gems.count(3), 3);
        due.sentence("Promise 17", "9: for how much all sold ones were sold together");
        due.is("sums", gems.count(9), 39);
        due.sentence("Promise 17", "4: memos; 5: open ones");
        gems.keep(0);
        gems.back(1);
        gems.back(2);
        due.is("memos", gems.count(4), 1);
        due.is("open", gems.count(5), 0);
        due.sentence("Promise 17", "all balances together, plus 100000000");
        due.is("the sums of sales", gems.count(8), Due.BASE + 39);
        due.sentence("Promise 17", "stones that were kept as late ones so far");
        due.is("kept, not late", gems.count(10), 0);
        gems.lend(0, 1, 1, 6);
        gems.pause(5);
        due.is("two", gems.count(10), 2);
        gems.lend(1, 0, 1, 6);
        gems.pause(5);
        due.is("the same ones again", gems.count(10), 4);
        due.sentence("Promise 17", "6: entries of the price list; 7: the time");
        due.is("one entry", gems.count(6), 1);
        due.is("two pauses", gems.count(7), 10);
        gems.unrate(4, 5, 5);
        due.is("no entry", gems.count(6), 0);
        due.sentence("Promise 17", "11: states in the history; 12: the length of the text");
        due.is("at most 4", gems.count(11), 4);
        due.is("no text", gems.count(12), 0);
        Due.typeAll(gems, "x;");
        due.is("two characters", gems.count(12), 2);
        due.sentence("Promise 17", "1 if there is a snapshot, otherwise 0");
        due.is("none", gems.count(13), 0);
        gems.mark();
        gems.mark();
        gems.restore();
        due.is("it stays", gems.count(13), 1);
    }

    private static void bestArguments() {
        due.sentence("Promise 18", "number of the dealer");
        GemMemos gems = Markets.small();
        for (int none : Due.noneOf(3)) {
            due.is("dealer " + none, gems.best(none, 500), Due.INVALID);
        }
        due.sentence("Promise 18", "`coins`: 0 to 99999");
        int[] bad = {MIN, -99999, -1, 100000, 100001, MAX};
        for (int coins : bad) {
            due.is("coins " + coins, gems.best(0, coins), Due.INVALID);
            due.is("coins " + coins + ", no stone", gems.best(2, coins), Due.INVALID);
        }
        due.is("0 is none of them", gems.best(0, 0), Due.NOT_FOUND);
        due.is("nor is 99999", gems.best(0, 99999), 3);
        GemMemos dear = Due.withDealers(1);
        dear.stone(0, 999, 0, 0);
        dear.rate(4, 0, 0, 9999);
        due.is("the greatest price", dear.best(0, 99999), 0);
        due.is("just that", dear.best(0, 99890), 0);
        due.is("one less", dear.best(0, 99889), Due.NOT_FOUND);
    }

    private static void best() {
        GemMemos many = Markets.twentyStones(100);
        due.is("20 without a price", many.best(0, 99999), Due.NOT_FOUND);
        many.grade(19, 9, 7);
        many.rate(4, 9, 7, 1);
        many.rate(4, 5, 5, 9);
        due.is("the last one of 20", many.best(0, 8), 19);
        due.sentence("Promise 18", "for at most so many coins");
        GemMemos gems = Markets.small();
        due.is("just that", gems.best(0, 300), 2);
        due.is("one less", gems.best(0, 299), 1);
        due.is("the cheapest", gems.best(0, 100), 0);
        due.sentence("Promise 18", "NOT_FOUND if there is none");
        due.is("one less than the cheapest", gems.best(0, 99), Due.NOT_FOUND);
        due.is("no stone", gems.best(2, 99999), Due.NOT_FOUND);
        due.sentence("Promise 18", "that a dealer holds, by its price");
        gems.lend(0, 2, 5, 4);
        due.is("held, not owned", gems.best(2, 99999), 2);
        due.is("owned, not held", gems.best(0, 399), 1);
        gems.rate(4, 5, 5, 200);
        due.is("asked less than its price", gems.best(2, 599), Due.NOT_FOUND);
        due.is("its price", gems.best(2, 600), 2);
        gems.unrate(4, 5, 5);
        due.is("asked, but no price", gems.best(2, 99999), Due.NOT_FOUND);
        due.sentence("Promise 18", "of several the heaviest, then the lowest number");
        gems = Due.withDealers(1);
        gems.stone(0, 100, 1, 1);
        gems.stone(0, 101, 0, 0);
        gems.stone(0, 101, 0, 0);
        gems.stone(0, 100, 1, 1);
        gems.stone(0, 99, 0, 0);
        gems.rate(4, 0, 0, 100);
        gems.rate(4, 1, 1, 101);
        gems.rate(3, 0, 0, 103);
        due.is("all cost 101", gems.dealerOf(0, 3), 5 * 101);
        due.is("the heaviest", gems.best(0, 99999), 1);
        gems.sell(1, 5);
        due.is("the next", gems.best(0, 99999), 2);
        gems.sell(2, 5);
        due.is("the lowest number", gems.best(0, 99999), 0);
        gems.sell(0, 5);
        gems.sell(3, 5);
        due.is("the lightest", gems.best(0, 99999), 4);
    }

    private static void duePair(String call, GemMemos gems, int lower, int greater, int gap) {
        due.is(call + ", lower", gems.pair(0, 0), lower);
        due.is(call + ", greater", gems.pair(0, 1), greater);
        due.is(call + ", by how much", gems.pair(0, 2), gap);
    }

    private static void pairArguments() {
        due.sentence("Promise 19", "number of the dealer");
        GemMemos gems = Markets.small();
        for (int none : Due.noneOf(3)) {
            due.is("dealer " + none, gems.pair(none, 0), Due.INVALID);
        }
        due.sentence("Promise 19", "INVALID_ARGUMENT if an argument is out of range");
        int[] bad = {MIN, -2, -1, 3, 4, MAX};
        for (int what : bad) {
            due.is("what " + what, gems.pair(0, what), Due.INVALID);
            due.is("what " + what + ", none", gems.pair(2, what), Due.INVALID);
        }
        due.sentence("Promise 19", "NOT_FOUND if there is none");
        GemMemos one = Due.withDealers(2);
        duePair("no stone", one, Due.NOT_FOUND, Due.NOT_FOUND, Due.NOT_FOUND);
        one.stone(0, 50, 4, 4);
        duePair("one stone", one, Due.NOT_FOUND, Due.NOT_FOUND, Due.NOT_FOUND);
        one.stone(1, 50, 4, 4);
        duePair("another dealer's", one, Due.NOT_FOUND, Due.NOT_FOUND, Due.NOT_FOUND);
        due.sentence("Promise 19", "with the same sieve, colour and clarity");
        one.stone(0, 49, 4, 4);
        duePair("another sieve", one, Due.NOT_FOUND, Due.NOT_FOUND, Due.NOT_FOUND);
        one.stone(0, 50, 3, 4);
        duePair("another colour", one, Due.NOT_FOUND, Due.NOT_FOUND, Due.NOT_FOUND);
        one.stone(0, 50, 4, 5);
        duePair("another clarity", one, Due.NOT_FOUND, Due.NOT_FOUND, Due.NOT_FOUND);
        one.stone(0, 99, 4, 4);
        duePair("the whole sieve apart", one, 0, 5, 49);
    }

    private static void pair() {
        due.sentence("Promise 19", "that differ least in weight");
        GemMemos gems = Due.withDealers(2);
        gems.stone(0, 999, 0, 0);
        gems.stone(0, 100, 0, 0);
        duePair("the greatest difference", gems, 0, 1, 899);
        gems.stone(0, 101, 0, 0);
        duePair("1", gems, 1, 2, 1);
        gems.stone(0, 999, 0, 0);
        duePair("0", gems, 0, 3, 0);
        due.sentence("Promise 19", "of several the lowest first one, then the lowest second one");
        gems.stone(0, 100, 0, 0);
        gems.stone(0, 999, 0, 0);
        duePair("three alike, and two", gems, 0, 3, 0);
        gems.rate(4, 0, 0, 5);
        due.sentence("Promise 19", "two stones that a dealer holds");
        gems.lend(0, 1, 5, 1);
        duePair("the first one lent", gems, 1, 4, 0);
        gems.lend(0, 1, 5, 2);
        duePair("the next one lent", gems, 3, 5, 0);
        gems.sell(3, 5);
        duePair("the next one sold", gems, 2, 4, 1);
        due.is("held, not owned", gems.pair(1, 2), 899);
        gems = Markets.twentyStones(100);
        duePair("20 alike", gems, 0, 1, 0);
        GemMemos last = Due.withDealers(1);
        for (int i = 0; i < 18; i++) {
            last.stone(0, 1, i % 9, i / 9);
        }
        last.stone(0, 9, 9, 7);
        last.stone(0, 1, 9, 7);
        duePair("the last two of 20", last, 18, 19, 8);
    }

    private static void grades() {
        due.sentence("Promise 20", "number of the dealer");
        GemMemos gems = Markets.small();
        for (int none : Due.noneOf(3)) {
            due.is("dealer " + none, gems.grades(none), Due.INVALID);
        }
        due.sentence("Promise 20", "Returns how many unlike grades");
        due.is("no stone", gems.grades(2), 0);
        due.is("one stone", gems.grades(1), 1);
        due.is("four alike", gems.grades(0), 1);
        gems.lend(0, 2, 5, 8);
        due.is("held, not owned", gems.grades(2), 1);
        gems.grade(3, 0, 0);
        due.is("regraded where it is", gems.grades(2), 1);
        due.is("owned, not held", gems.grades(0), 1);
        gems.back(3);
        due.is("given back", gems.grades(0), 2);
        due.is("given back", gems.grades(2), 0);
        gems.sell(3, 5);
        due.is("sold", gems.grades(0), 1);
        GemMemos many = Due.withDealers(1);
        for (int i = 0; i < 20; i++) {
            many.stone(0, new int[] {9, 10, 49, 99, 999}[i % 5], i % 10, i / 10);
        }
        due.is("20 unlike ones", many.grades(0), 20);
    }
}
