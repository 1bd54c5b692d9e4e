/** Promises 6 to 12: memos, regrades, sales, days and settings. */
public final class MemosTest {
    private static final Due due = new Due();

    public static void main(String[] args) {
        lends();
        lendArguments();
        lendRefusals();
        tenMemos();
        backs();
        keeps();
        sells();
        gradesThatAreOut();
        gradeArguments();
        pauses();
        lateOnes();
        lateOrderAndSums();
        settings();
        due.end();
    }

    private static void lends() {
        GemMemos gems = Markets.small();
        due.is("lend", gems.lend(0, 2, 90, 5), 0);
        due.is("lend", gems.lend(1, 0, 1, 16), 1);
        due.is("from", gems.memoOf(0, 0), 0);
        due.is("to", gems.memoOf(0, 1), 2);
        due.is("last day", gems.memoOf(0, 2), 90);
        due.is("out", gems.memoOf(0, 3), 5);
        due.is("all", gems.memoOf(0, 4), 5);
        due.is("last day", gems.memoOf(1, 2), 1);
        due.is("owner", gems.stoneOf(2, 4), 0);
        due.is("holder", gems.stoneOf(2, 5), 2);
        due.is("memo", gems.stoneOf(2, 7), 0);
        due.is("memo", gems.stoneOf(4, 7), 1);
        due.is("asked", gems.stoneOf(2, 8), 300);
        due.is("not lent", gems.stoneOf(1, 5), 0);
        due.is("not lent", gems.stoneOf(1, 7), Due.NOT_FOUND);
        gems.rate(4, 5, 5, 200);
        due.is("asked is fixed", gems.stoneOf(2, 8), 300);
        due.is("price is not", gems.stoneOf(2, 6), 600);
        due.is("of the day", gems.lend(0, 1, 1, 8), 2);
        due.is("asked", gems.stoneOf(3, 8), 800);
        gems.pause(1);
        due.is("a day later", gems.lend(0, 1, 7, 2), 3);
        due.is("last day", gems.memoOf(3, 2), 8);
    }

    private static void lendArguments() {
        GemMemos gems = Markets.small();
        int[][] bad = {{-1, 1, 5, 1}, {3, 1, 5, 1}, {0, -1, 5, 1}, {0, 3, 5, 1}, {0, 0, 5, 1},
            {0, 1, 0, 1}, {0, 1, -1, 1}, {0, 1, 91, 1}, {0, 1, 5, 0}, {0, 1, 5, 32},
            {0, 1, 5, 33}, {0, 1, 5, -1}, {0, 1, 5, Integer.MIN_VALUE}, {0, 1, 5, 1 << 30},
            {0, 1, 5, 1 << 20}, {1, 1, 5, 1}};
        for (int[] b : bad) {
            due.is("bad lend", gems.lend(b[0], b[1], b[2], b[3]), Due.INVALID);
        }
        due.is("count(4)", gems.count(4), 0);
        for (int i = 5; i < 20; i++) {
            gems.stone(0, 100, 0, 0);
        }
        due.is("there are 20", gems.lend(0, 1, 5, 1 << 20), Due.INVALID);
        due.is("the last one", gems.lend(0, 1, 5, 1 << 19), 0);
        due.is("many", gems.lend(0, 1, 5, (1 << 19) - 17), 1);
        due.is("count(3)", gems.count(3), 19);
    }

    private static void lendRefusals() {
        GemMemos gems = Markets.small();
        gems.stone(0, 30, 0, 0);
        due.is("no price", gems.lend(0, 1, 5, 32), Due.NOT_POSSIBLE);
        due.is("one without a price", gems.lend(0, 1, 5, 33), Due.NOT_POSSIBLE);
        due.is("not owned", gems.lend(0, 1, 5, 16), Due.NOT_POSSIBLE);
        due.is("one not owned", gems.lend(0, 1, 5, 17), Due.NOT_POSSIBLE);
        due.is("nothing lent", gems.count(3), 0);
        due.is("lend", gems.lend(0, 1, 5, 1), 0);
        due.is("owned, not held", gems.lend(0, 2, 5, 1), Due.NOT_POSSIBLE);
        due.is("held, not owned", gems.lend(1, 2, 5, 1), Due.NOT_POSSIBLE);
        gems.sell(1, 10);
        due.is("sold", gems.lend(0, 1, 5, 2), Due.NOT_POSSIBLE);
        gems.rate(2, 5, 5, 1);
        due.is("price 0 is a price", gems.stoneOf(5, 6), 0);
        due.is("price 0 is a price", gems.lend(0, 1, 5, 32), 1);
        due.is("asked 0", gems.stoneOf(5, 8), 0);
        due.is("keep for 0", gems.keep(5), 0);
    }

    private static void tenMemos() {
        GemMemos gems = Markets.small();
        for (int i = 0; i < 10; i++) {
            due.is("lend", gems.lend(0, 1, 5, 1), i);
            gems.back(0);
        }
        due.is("11th", gems.lend(0, 1, 5, 1), Due.LIMIT);
        due.is("11th, not possible", gems.lend(0, 1, 5, 16), Due.NOT_POSSIBLE);
        due.is("11th, bad", gems.lend(0, 1, 5, 32), Due.INVALID);
        due.is("count(4)", gems.count(4), 10);
        due.is("count(5)", gems.count(5), 0);
        due.is("not out", gems.stoneOf(0, 7), Due.NOT_FOUND);
        due.is("memoOf(9)", gems.memoOf(9, 4), 1);
        due.is("memoOf(10)", gems.memoOf(10, 4), Due.INVALID);
    }

    private static void backs() {
        GemMemos gems = Markets.small();
        gems.lend(0, 1, 5, 7);
        gems.lend(0, 2, 5, 8);
        due.is("back", gems.back(1), 2);
        due.is("holder", gems.stoneOf(1, 5), 0);
        due.is("owner", gems.stoneOf(1, 4), 0);
        due.is("not out", gems.stoneOf(1, 8), Due.NOT_FOUND);
        due.is("again", gems.back(1), Due.NOT_POSSIBLE);
        due.is("never out", gems.back(4), Due.NOT_POSSIBLE);
        due.is("back", gems.back(0), 1);
        due.is("open", gems.memoOf(0, 6), 1);
        due.is("back", gems.back(2), 0);
        due.is("closed", gems.memoOf(0, 6), 0);
        due.is("all of it", gems.memoOf(0, 4), 7);
        due.is("out of it", gems.memoOf(0, 3), 0);
        due.is("none kept", gems.memoOf(0, 5), 0);
        due.is("balance", gems.dealerOf(1, 0), Due.BASE);
        due.is("bad", gems.back(-1), Due.INVALID);
        due.is("bad", gems.back(5), Due.INVALID);
        due.is("bad", gems.back(Integer.MAX_VALUE), Due.INVALID);
        gems.sell(4, 9);
        due.is("sold", gems.back(4), Due.NOT_POSSIBLE);
    }

    private static void keeps() {
        GemMemos gems = Markets.small();
        gems.lend(0, 1, 5, 7);
        due.is("keep", gems.keep(1), 200);
        due.is("owner", gems.stoneOf(1, 4), 1);
        due.is("holder", gems.stoneOf(1, 5), 1);
        due.is("times", gems.stoneOf(1, 10), 1);
        due.is("below 0", gems.dealerOf(1, 0), Due.BASE - 200);
        due.is("above 0", gems.dealerOf(0, 0), Due.BASE + 200);
        due.is("kept of it", gems.memoOf(0, 5), 1);
        due.is("out of it", gems.memoOf(0, 3), 5);
        due.is("again", gems.keep(1), Due.NOT_POSSIBLE);
        due.is("never out", gems.keep(3), Due.NOT_POSSIBLE);
        due.is("not late", gems.count(10), 0);
        due.is("bad", gems.keep(-1), Due.INVALID);
        due.is("bad", gems.keep(5), Due.INVALID);
        due.is("lend on", gems.lend(1, 2, 5, 2), 1);
        due.is("keep", gems.keep(1), 200);
        due.is("times", gems.stoneOf(1, 10), 2);
        due.is("balance", gems.dealerOf(1, 0), Due.BASE);
        due.is("balance", gems.dealerOf(2, 0), Due.BASE - 200);
        due.is("back to the first", gems.lend(2, 0, 5, 2), 2);
        gems.pause(6);
        due.is("keep past the last day: the asked price alone", gems.keep(1), 200);
        due.is("times", gems.stoneOf(1, 10), 3);
        gems.sell(4, 9);
        due.is("sold", gems.keep(4), Due.NOT_POSSIBLE);
    }

    private static void sells() {
        GemMemos gems = Markets.small();
        gems.lend(0, 1, 5, 3);
        due.is("out", gems.sell(0, 5), Due.NOT_POSSIBLE);
        due.is("out, bad coins", gems.sell(0, 0), Due.INVALID);
        due.is("bad", gems.sell(2, 10000), Due.INVALID);
        due.is("bad", gems.sell(2, -1), Due.INVALID);
        due.is("bad", gems.sell(-1, 5), Due.INVALID);
        due.is("bad", gems.sell(5, 5), Due.INVALID);
        due.is("sell", gems.sell(2, 9999), Due.BASE + 9999);
        due.is("sell", gems.sell(3, 1), Due.BASE + 10000);
        due.is("again", gems.sell(2, 5), Due.NOT_POSSIBLE);
        due.is("owner", gems.stoneOf(2, 4), Due.NOT_FOUND);
        due.is("holder", gems.stoneOf(2, 5), Due.NOT_FOUND);
        due.is("sum", gems.stoneOf(2, 9), 9999);
        due.is("not sold", gems.stoneOf(0, 9), Due.NOT_FOUND);
        due.is("price yet", gems.stoneOf(2, 6), 300);
        due.is("owned", gems.dealerOf(0, 1), 3);
        gems.keep(0);
        due.is("the new owner's", gems.sell(0, 30), Due.BASE - 100 + 30);
        due.is("count(2)", gems.count(2), 3);
        due.is("count(9)", gems.count(9), 10030);
    }

    private static void gradesThatAreOut() {
        GemMemos gems = Markets.small();
        gems.rate(4, 1, 1, 1000);
        gems.lend(0, 1, 5, 1);
        due.is("grade", gems.grade(0, 1, 0), 55);
        due.is("colour", gems.stoneOf(0, 1), 1);
        due.is("clarity", gems.stoneOf(0, 2), 0);
        due.is("asked is its price", gems.stoneOf(0, 8), 1000);
        due.is("grade", gems.grade(0, 9, 7), 10);
        due.is("no rate: it stays", gems.stoneOf(0, 8), 1000);
        due.is("no price", gems.stoneOf(0, 6), Due.NOT_FOUND);
        due.is("grade", gems.grade(0, 5, 5), 97);
        due.is("less again", gems.stoneOf(0, 8), 100);
        gems.rate(4, 5, 5, 700);
        due.is("same grade", gems.grade(0, 5, 5), 55);
        due.is("its price of now", gems.stoneOf(0, 8), 700);
        due.is("not out", gems.grade(2, 9, 7), 55);
        due.is("not out", gems.stoneOf(2, 8), Due.NOT_FOUND);
        due.is("keep", gems.keep(0), 700);
    }

    private static void gradeArguments() {
        GemMemos gems = Markets.small();
        int[][] bad = {{-1, 0, 0}, {5, 0, 0}, {0, -1, 0}, {0, 10, 0}, {0, 0, -1}, {0, 0, 8}};
        gems.sell(0, 7);
        for (int[] b : bad) {
            due.is("bad grade", gems.grade(b[0], b[1], b[2]), Due.INVALID);
        }
        due.is("sold", gems.grade(0, 0, 0), Due.NOT_POSSIBLE);
        due.is("as it was", gems.stoneOf(0, 1), 5);
        due.is("edges", gems.grade(1, 9, 7), 55);
        due.is("edges", gems.grade(1, 0, 0), 97);
    }

    private static void pauses() {
        GemMemos gems = new GemMemos();
        due.is("bad", gems.pause(0), Due.INVALID);
        due.is("bad", gems.pause(-1), Due.INVALID);
        due.is("bad", gems.pause(100), Due.INVALID);
        due.is("bad", gems.pause(Integer.MAX_VALUE), Due.INVALID);
        for (int i = 0; i < 20; i++) {
            due.is("pause", gems.pause(99), 0);
        }
        due.is("time", gems.count(7), 1980);
        due.is("too far", gems.pause(21), Due.LIMIT);
        due.is("too far, bad", gems.pause(100), Due.INVALID);
        due.is("as it was", gems.count(7), 1980);
        due.is("to the end", gems.pause(20), 0);
        due.is("time", gems.count(7), 2000);
        due.is("the end", gems.pause(1), Due.LIMIT);
    }

    private static void lateOnes() {
        GemMemos gems = Markets.small();
        gems.lend(0, 1, 2, 3);
        gems.lend(0, 2, 3, 4);
        due.is("in grace", gems.pause(5), 0);
        due.is("out", gems.count(3), 3);
        due.is("two late", gems.pause(1), 2);
        due.is("with a tenth", gems.dealerOf(1, 0), Due.BASE - 330);
        due.is("to the owner", gems.dealerOf(0, 0), Due.BASE + 330);
        due.is("owner", gems.stoneOf(0, 4), 1);
        due.is("holder", gems.stoneOf(0, 5), 1);
        due.is("times", gems.stoneOf(0, 10), 1);
        due.is("kept of it", gems.memoOf(0, 5), 2);
        due.is("closed", gems.memoOf(0, 6), 0);
        due.is("late so far", gems.count(10), 2);
        gems.back(2);
        due.is("given back is not late", gems.pause(9), 0);
        due.is("late so far", gems.count(10), 2);
    }

    private static void lateOrderAndSums() {
        GemMemos gems = Markets.small();
        gems.set(0, 0);
        gems.set(1, 15);
        gems.rate(4, 5, 5, 33);
        gems.lend(0, 1, 1, 9);
        gems.lend(1, 2, 1, 16);
        due.is("on the last day", gems.pause(1), 0);
        due.is("all late", gems.pause(1), 3);
        due.is("33 + 4, 132 + 19, 165 + 24", gems.dealerOf(1, 0), Due.BASE - 37 - 151 + 189);
        due.is("0", gems.dealerOf(0, 0), Due.BASE + 37 + 151);
        due.is("2", gems.dealerOf(2, 0), Due.BASE - 189);
        gems = Markets.small();
        gems.set(1, 100);
        gems.lend(0, 1, 1, 1);
        gems.pause(4);
        gems.set(0, 30);
        due.is("more grace", gems.pause(27), 0);
        due.is("no more", gems.pause(1), 1);
        due.is("twice", gems.dealerOf(1, 0), Due.BASE - 200);
        gems.set(1, 0);
        gems.lend(0, 1, 1, 2);
        due.is("in many days", gems.pause(99), 1);
        due.is("nothing added", gems.dealerOf(1, 0), Due.BASE - 400);
        due.is("late so far", gems.count(10), 2);
    }

    private static void settings() {
        GemMemos gems = new GemMemos();
        due.is("set 0", gems.set(0, 30), 3);
        due.is("set 0", gems.set(0, 0), 30);
        due.is("set 1", gems.set(1, 100), 10);
        due.is("set 1", gems.set(1, 0), 100);
        due.is("count(14)", gems.count(14), 0);
        due.is("bad", gems.set(0, 31), Due.INVALID);
        due.is("bad", gems.set(0, -1), Due.INVALID);
        due.is("bad", gems.set(1, 101), Due.INVALID);
        due.is("bad", gems.set(1, -1), Due.INVALID);
        due.is("bad", gems.set(2, 0), Due.INVALID);
        due.is("bad", gems.set(-1, 0), Due.INVALID);
        gems.set(0, 4);
        gems.set(1, 50);
        due.is("count(14)", gems.count(14), 4);
        due.is("count(15)", gems.count(15), 50);
    }
}
