/** Promises 1 to 5, and 16: a new object, dealers, stones, prices and the rates of grades. */
public final class PricesTest {
    private static final Due due = new Due();

    public static void main(String[] args) {
        newObject();
        dealers();
        stones();
        stoneArguments();
        rates();
        rateArguments();
        unrates();
        ratesByWorseEntries();
        due.end();
    }

    private static void newObject() {
        GemMemos gems = new GemMemos();
        for (int what = 0; what <= 13; what++) {
            due.is("new: count(" + what + ")", gems.count(what), what == 8 ? Due.BASE : 0);
        }
        due.is("new: count(14)", gems.count(14), 3);
        due.is("new: count(15)", gems.count(15), 10);
        due.is("new: stoneOf", gems.stoneOf(0, 0), Due.INVALID);
        due.is("new: dealerOf", gems.dealerOf(0, 0), Due.INVALID);
        due.is("new: memoOf", gems.memoOf(0, 0), Due.INVALID);
        due.is("new: rateOf", gems.rateOf(0, 0, 0, 0), Due.NOT_FOUND);
        due.is("new: restore", gems.restore(), Due.NOT_POSSIBLE);
        due.is("new: undo", gems.undo(), Due.NOT_POSSIBLE);
        due.is("new: fault", gems.fault(0), Due.NOT_FOUND);
    }

    private static void dealers() {
        GemMemos gems = new GemMemos();
        for (int i = 0; i < 6; i++) {
            due.is("dealer " + i, gems.dealer(), i);
            due.is("count(0)", gems.count(0), i + 1);
            due.is("balance", gems.dealerOf(i, 0), Due.BASE);
        }
        due.is("dealer 7th", gems.dealer(), Due.LIMIT);
        due.is("count(0)", gems.count(0), 6);
        due.is("dealerOf(6)", gems.dealerOf(6, 0), Due.INVALID);
        due.is("history after limit", gems.count(11), 4);
    }

    private static void stones() {
        GemMemos gems = Due.withDealers(2);
        int[] weights = {1, 9, 10, 24, 25, 49, 50, 99, 100, 999};
        int[] sieves = {0, 0, 1, 1, 2, 2, 3, 3, 4, 4};
        for (int i = 0; i < weights.length; i++) {
            due.is("stone", gems.stone(1, weights[i], i % 10, i % 8), i);
            due.is("weight", gems.stoneOf(i, 0), weights[i]);
            due.is("colour", gems.stoneOf(i, 1), i % 10);
            due.is("clarity", gems.stoneOf(i, 2), i % 8);
            due.is("sieve of " + weights[i], gems.stoneOf(i, 3), sieves[i]);
            due.is("owner", gems.stoneOf(i, 4), 1);
            due.is("holder", gems.stoneOf(i, 5), 1);
            due.is("kept", gems.stoneOf(i, 10), 0);
        }
        for (int i = 10; i < 20; i++) {
            due.is("stone", gems.stone(0, 5, 0, 0), i);
        }
        due.is("stone 21st", gems.stone(0, 5, 0, 0), Due.LIMIT);
        due.is("stone 21st, bad", gems.stone(0, 0, 0, 0), Due.INVALID);
        due.is("count(1)", gems.count(1), 20);
        gems.sell(0, 10);
        due.is("sold ones count", gems.stone(0, 5, 0, 0), Due.LIMIT);
    }

    private static void stoneArguments() {
        GemMemos gems = Due.withDealers(1);
        int[][] bad = {{-1, 5, 0, 0}, {1, 5, 0, 0}, {Integer.MIN_VALUE, 5, 0, 0},
            {0, 0, 0, 0}, {0, -5, 0, 0}, {0, 1000, 0, 0}, {0, Integer.MAX_VALUE, 0, 0},
            {0, 5, -1, 0}, {0, 5, 10, 0}, {0, 5, 0, -1}, {0, 5, 0, 8}};
        for (int[] b : bad) {
            due.is("bad stone", gems.stone(b[0], b[1], b[2], b[3]), Due.INVALID);
        }
        due.is("count(1)", gems.count(1), 0);
        due.is("no change recorded", gems.count(11), 1);
        due.is("edge", gems.stone(0, 1, 0, 0), 0);
        due.is("edge", gems.stone(0, 999, 9, 7), 1);
    }

    private static void rates() {
        GemMemos gems = new GemMemos();
        due.is("rate", gems.rate(0, 0, 0, 1), 0);
        due.is("rate", gems.rate(4, 9, 7, 9999), 0);
        due.is("rate again", gems.rate(0, 0, 0, 77), 1);
        due.is("rate again", gems.rate(0, 0, 0, 78), 77);
        due.is("rate again", gems.rate(4, 9, 7, 5), 9999);
        due.is("count(6)", gems.count(6), 2);
        for (int i = 0; i < 22; i++) {
            due.is("rate " + i, gems.rate(2, i % 10, i / 10, 100 + i), 0);
        }
        due.is("count(6)", gems.count(6), 24);
        due.is("rate 25th", gems.rate(3, 0, 0, 1), Due.LIMIT);
        due.is("rate 25th, bad", gems.rate(3, 0, 8, 1), Due.INVALID);
        due.is("rate that there is", gems.rate(2, 1, 2, 9), 121);
        due.is("none was lost", gems.rateOf(2, 0, 0, 1), 100);
        due.is("unrate", gems.unrate(2, 0, 0), 100);
        due.is("rate in its place", gems.rate(3, 0, 0, 1), 0);
        due.is("rate 25th", gems.rate(3, 0, 1, 1), Due.LIMIT);
        due.is("count(6)", gems.count(6), 24);
    }

    private static void rateArguments() {
        GemMemos gems = new GemMemos();
        int[][] bad = {{-1, 0, 0, 1}, {5, 0, 0, 1}, {0, -1, 0, 1}, {0, 10, 0, 1},
            {0, 0, -1, 1}, {0, 0, 8, 1}, {0, 0, 0, 0}, {0, 0, 0, -1}, {0, 0, 0, 10000}};
        for (int[] b : bad) {
            due.is("bad rate", gems.rate(b[0], b[1], b[2], b[3]), Due.INVALID);
        }
        gems.rate(0, 0, 0, 5);
        int[][] grades = {{-1, 0, 0}, {5, 0, 0}, {0, -1, 0}, {0, 10, 0}, {0, 0, -1}, {0, 0, 8}};
        for (int[] g : grades) {
            due.is("bad unrate", gems.unrate(g[0], g[1], g[2]), Due.INVALID);
            due.is("bad rateOf", gems.rateOf(g[0], g[1], g[2], 0), Due.INVALID);
            due.is("bad rateOf", gems.rateOf(g[0], g[1], g[2], 1), Due.INVALID);
        }
        due.is("own -1", gems.rateOf(0, 0, 0, -1), Due.INVALID);
        due.is("own 2", gems.rateOf(0, 0, 0, 2), Due.INVALID);
        due.is("one change", gems.count(11), 1);
    }

    private static void unrates() {
        GemMemos gems = new GemMemos();
        due.is("none", gems.unrate(1, 2, 3), Due.NOT_POSSIBLE);
        gems.rate(1, 2, 4, 50);
        due.is("a worse one is not it", gems.unrate(1, 2, 3), Due.NOT_POSSIBLE);
        gems.rate(1, 2, 3, 40);
        due.is("unrate", gems.unrate(1, 2, 3), 40);
        due.is("again", gems.unrate(1, 2, 3), Due.NOT_POSSIBLE);
        due.is("the other stays", gems.rateOf(1, 2, 4, 1), 50);
        due.is("count(6)", gems.count(6), 1);
        due.is("rate anew", gems.rate(1, 2, 3, 60), 0);
        due.is("changes", gems.count(11), 4);
    }

    private static void ratesByWorseEntries() {
        GemMemos gems = new GemMemos();
        gems.rate(3, 4, 4, 1000);
        gems.rate(3, 5, 4, 1500);
        gems.rate(3, 4, 3, 10);
        gems.rate(2, 9, 7, 9000);
        due.is("greatest of the worse", gems.rateOf(3, 3, 3, 0), 1500);
        due.is("its own, though less", gems.rateOf(3, 4, 3, 0), 10);
        due.is("its own", gems.rateOf(3, 4, 4, 0), 1000);
        due.is("own alone", gems.rateOf(3, 4, 4, 1), 1000);
        due.is("own alone, none", gems.rateOf(3, 3, 3, 1), Due.NOT_FOUND);
        due.is("same colour, worse clarity", gems.rateOf(3, 5, 0, 0), 1500);
        due.is("worse colour, same clarity", gems.rateOf(3, 0, 4, 0), 1500);
        due.is("clarity not as bad", gems.rateOf(3, 5, 5, 0), Due.NOT_FOUND);
        due.is("colour not as bad", gems.rateOf(3, 6, 4, 0), Due.NOT_FOUND);
        due.is("colour better, clarity worse", gems.rateOf(3, 0, 5, 0), Due.NOT_FOUND);
        due.is("another sieve", gems.rateOf(4, 0, 0, 0), Due.NOT_FOUND);
        due.is("another sieve", gems.rateOf(2, 0, 0, 0), 9000);
        gems.unrate(3, 5, 4);
        due.is("after unrate", gems.rateOf(3, 3, 3, 0), 1000);
        gems.unrate(3, 4, 4);
        due.is("after unrate", gems.rateOf(3, 3, 3, 0), 10);
        gems.unrate(3, 4, 3);
        due.is("after unrate", gems.rateOf(3, 3, 3, 0), Due.NOT_FOUND);
    }
}
