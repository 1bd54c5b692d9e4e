/** Promises 13 to 15 and 17 to 20: what there is, and what is found. */
public final class TellsTest {
    private static final Due due = new Due();

    public static void main(String[] args) {
        stoneOf();
        dealerOf();
        memoOf();
        count();
        best();
        pair();
        grades();
        due.end();
    }

    private static void stoneOf() {
        GemMemos gems = Due.withDealers(2);
        gems.stone(0, 155, 3, 4);
        gems.stone(1, 7, 9, 7);
        gems.rate(4, 5, 5, 101);
        due.is("price, rounded down", gems.stoneOf(0, 6), 156);
        due.is("no rate", gems.stoneOf(1, 6), Due.NOT_FOUND);
        due.is("not out", gems.stoneOf(0, 7), Due.NOT_FOUND);
        due.is("not out", gems.stoneOf(0, 8), Due.NOT_FOUND);
        due.is("not sold", gems.stoneOf(0, 9), Due.NOT_FOUND);
        int[][] bad = {{-1, 0}, {2, 0}, {0, -1}, {0, 11}, {20, 0}, {Integer.MIN_VALUE, 0},
            {0, Integer.MAX_VALUE}, {-1, 4}, {2, 9}};
        for (int[] b : bad) {
            due.is("bad stoneOf", gems.stoneOf(b[0], b[1]), Due.INVALID);
        }
        gems.lend(0, 1, 4, 1);
        due.is("owner", gems.stoneOf(0, 4), 0);
        due.is("holder", gems.stoneOf(0, 5), 1);
        due.is("memo 0", gems.stoneOf(0, 7), 0);
        due.is("asked", gems.stoneOf(0, 8), 156);
        gems.keep(0);
        gems.sell(0, 44);
        int[] sold = {155, 3, 4, 4, Due.NOT_FOUND, Due.NOT_FOUND, 156, Due.NOT_FOUND,
            Due.NOT_FOUND, 44, 1};
        for (int what = 0; what < sold.length; what++) {
            due.is("sold: " + what, gems.stoneOf(0, what), sold[what]);
        }
    }

    private static void dealerOf() {
        GemMemos gems = Due.withDealers(3);
        gems.stone(0, 100, 0, 0);
        gems.stone(0, 200, 0, 0);
        gems.stone(1, 300, 0, 0);
        gems.stone(0, 5, 0, 0);
        gems.stone(0, 400, 0, 0);
        gems.rate(4, 0, 0, 100);
        gems.lend(0, 1, 5, 3);
        gems.lend(0, 2, 5, 16);
        gems.lend(1, 2, 5, 4);
        gems.rate(4, 0, 0, 1000);
        int[][] dues = {{Due.BASE, 27, 8, 7000, 0, 700}, {Due.BASE, 4, 3, 3000, 300, 300},
            {Due.BASE, 0, 20, 0, 700, 0}};
        for (int dealer = 0; dealer < 3; dealer++) {
            for (int what = 0; what < 6; what++) {
                due.is("dealer " + dealer + ", " + what, gems.dealerOf(dealer, what),
                        dues[dealer][what]);
            }
        }
        gems.keep(0);
        gems.back(1);
        gems.sell(3, 6);
        due.is("owned", gems.dealerOf(0, 1), 18);
        due.is("held", gems.dealerOf(0, 2), 2);
        due.is("worth", gems.dealerOf(0, 3), 6000);
        due.is("lent", gems.dealerOf(0, 5), 400);
        due.is("balance", gems.dealerOf(0, 0), Due.BASE + 106);
        due.is("owned", gems.dealerOf(1, 1), 5);
        due.is("held", gems.dealerOf(1, 2), 1);
        due.is("out to", gems.dealerOf(1, 4), 0);
        int[][] bad = {{-1, 0}, {3, 0}, {0, -1}, {0, 6}, {6, 0}, {Integer.MIN_VALUE, 0}};
        for (int[] b : bad) {
            due.is("bad dealerOf", gems.dealerOf(b[0], b[1]), Due.INVALID);
        }
    }

    private static void memoOf() {
        GemMemos gems = Due.withDealers(3);
        for (int i = 0; i < 4; i++) {
            gems.stone(2, 100, 0, 0);
        }
        gems.rate(4, 0, 0, 100);
        gems.pause(3);
        gems.lend(2, 1, 7, 14);
        int[] dues = {2, 1, 10, 14, 14, 0, 1, 7};
        for (int what = 0; what < 8; what++) {
            due.is("memo, " + what, gems.memoOf(0, what), dues[what]);
        }
        gems.keep(1);
        gems.back(2);
        gems.pause(6);
        dues = new int[] {2, 1, 10, 8, 14, 1, 1, 1};
        for (int what = 0; what < 8; what++) {
            due.is("memo then, " + what, gems.memoOf(0, what), dues[what]);
        }
        gems.pause(1);
        due.is("on the last day", gems.memoOf(0, 7), 0);
        gems.pause(1);
        due.is("past the last day", gems.memoOf(0, 7), 0);
        gems.pause(3);
        due.is("late kept count too", gems.memoOf(0, 5), 2);
        due.is("closed", gems.memoOf(0, 6), 0);
        int[][] bad = {{-1, 0}, {1, 0}, {0, -1}, {0, 8}, {10, 0}, {Integer.MAX_VALUE, 0}};
        for (int[] b : bad) {
            due.is("bad memoOf", gems.memoOf(b[0], b[1]), Due.INVALID);
        }
    }

    private static void count() {
        GemMemos gems = Due.withDealers(2);
        for (int i = 0; i < 5; i++) {
            gems.stone(0, 100, 0, 0);
        }
        gems.rate(4, 0, 0, 100);
        gems.rate(3, 0, 0, 100);
        gems.lend(0, 1, 1, 1);
        gems.lend(0, 1, 20, 6);
        gems.lend(0, 1, 20, 8);
        gems.back(3);
        gems.sell(4, 70);
        gems.sell(3, 8);
        gems.pause(9);
        gems.set(0, 5);
        gems.set(1, 55);
        Due.typeAll(gems, "abc");
        int[] dues = {2, 5, 2, 2, 3, 1, 2, 9, Due.BASE + 78, 78, 1, 4, 3, 0, 5, 55};
        for (int what = 0; what < 16; what++) {
            due.is("count(" + what + ")", gems.count(what), dues[what]);
        }
        gems.mark();
        due.is("snapshot", gems.count(13), 1);
        gems = Due.withDealers(2);
        gems.stone(0, 100, 0, 0);
        gems.rate(4, 0, 0, 100);
        gems.lend(0, 1, 1, 1);
        due.is("the first memo is open", gems.count(5), 1);
        due.is("bad", gems.count(-1), Due.INVALID);
        due.is("bad", gems.count(16), Due.INVALID);
        due.is("bad", gems.count(Integer.MIN_VALUE), Due.INVALID);
    }

    private static void best() {
        GemMemos gems = Due.withDealers(2);
        due.is("none", gems.best(0, 99999), Due.NOT_FOUND);
        gems.stone(0, 100, 0, 0);
        gems.stone(0, 110, 0, 1);
        gems.stone(0, 110, 0, 1);
        gems.stone(0, 9, 9, 7);
        gems.stone(1, 200, 0, 0);
        due.is("without prices", gems.best(0, 99999), Due.NOT_FOUND);
        gems.rate(4, 0, 0, 110);
        gems.rate(4, 0, 1, 100);
        due.is("heaviest, then lowest", gems.best(0, 110), 1);
        due.is("more", gems.best(0, 99999), 1);
        due.is("too dear", gems.best(0, 109), Due.NOT_FOUND);
        gems.rate(4, 0, 0, 111);
        due.is("dearest", gems.best(0, 111), 0);
        due.is("dearest for less", gems.best(0, 110), 1);
        gems.rate(0, 9, 7, 1);
        due.is("for nothing", gems.best(0, 0), 3);
        gems.lend(1, 0, 5, 16);
        due.is("held, not owned", gems.best(0, 99999), 4);
        due.is("not held", gems.best(1, 99999), Due.NOT_FOUND);
        gems.lend(0, 1, 5, 2);
        due.is("owned, not held", gems.best(0, 110), 2);
        gems.sell(2, 5);
        due.is("sold", gems.best(0, 110), 3);
        int[][] bad = {{-1, 5}, {2, 5}, {0, -1}, {0, 100000}, {0, Integer.MIN_VALUE}};
        for (int[] b : bad) {
            due.is("bad best", gems.best(b[0], b[1]), Due.INVALID);
        }
    }

    private static void duePair(GemMemos gems, String what, int lower, int greater, int gap) {
        due.is(what + ": lower", gems.pair(0, 0), lower);
        due.is(what + ": greater", gems.pair(0, 1), greater);
        due.is(what + ": gap", gems.pair(0, 2), gap);
    }

    private static void pair() {
        GemMemos gems = Due.withDealers(2);
        gems.stone(0, 150, 1, 1);
        duePair(gems, "one", Due.NOT_FOUND, Due.NOT_FOUND, Due.NOT_FOUND);
        gems.stone(0, 99, 1, 1);
        gems.stone(0, 150, 2, 1);
        gems.stone(0, 150, 1, 2);
        gems.stone(1, 150, 1, 1);
        duePair(gems, "other grades and holders", Due.NOT_FOUND, Due.NOT_FOUND, Due.NOT_FOUND);
        gems.stone(0, 120, 1, 1);
        duePair(gems, "a pair", 0, 5, 30);
        gems.stone(0, 180, 1, 1);
        duePair(gems, "the lowest second", 0, 5, 30);
        gems.stone(0, 140, 2, 1);
        duePair(gems, "less", 2, 7, 10);
        gems.stone(0, 109, 2, 1);
        gems.stone(0, 170, 1, 1);
        duePair(gems, "the lowest first", 2, 7, 10);
        gems.stone(0, 150, 1, 2);
        duePair(gems, "just alike", 3, 10, 0);
        gems.sell(10, 5);
        duePair(gems, "sold", 2, 7, 10);
        gems.rate(4, 9, 7, 5);
        gems.lend(0, 1, 5, 128);
        duePair(gems, "not held", 6, 9, 10);
        gems.lend(1, 0, 5, 16);
        duePair(gems, "held, not owned", 0, 4, 0);
        GemMemos next = Due.withDealers(1);
        next.stone(0, 60, 0, 0);
        next.stone(0, 55, 0, 0);
        duePair(next, "next to each other, the heavier first", 0, 1, 5);
        int[][] bad = {{-1, 0}, {2, 0}, {0, -1}, {0, 3}};
        for (int[] b : bad) {
            due.is("bad pair", gems.pair(b[0], b[1]), Due.INVALID);
        }
    }

    private static void grades() {
        GemMemos gems = Due.withDealers(2);
        due.is("none", gems.grades(0), 0);
        gems.stone(0, 100, 1, 1);
        gems.stone(0, 999, 1, 1);
        due.is("one", gems.grades(0), 1);
        gems.stone(0, 99, 1, 1);
        due.is("sieve", gems.grades(0), 2);
        gems.stone(0, 100, 2, 1);
        due.is("colour", gems.grades(0), 3);
        gems.stone(0, 100, 1, 2);
        due.is("clarity", gems.grades(0), 4);
        gems.stone(1, 5, 1, 2);
        due.is("another's", gems.grades(0), 4);
        gems.rate(4, 9, 7, 5);
        gems.lend(0, 1, 5, 1);
        due.is("its like is held", gems.grades(0), 4);
        due.is("to whom", gems.grades(1), 2);
        gems.lend(0, 1, 5, 2);
        due.is("none of it is held", gems.grades(0), 3);
        due.is("to whom", gems.grades(1), 2);
        gems.sell(4, 5);
        due.is("sold", gems.grades(0), 2);
        due.is("bad", gems.grades(-1), Due.INVALID);
        due.is("bad", gems.grades(2), Due.INVALID);
    }
}
