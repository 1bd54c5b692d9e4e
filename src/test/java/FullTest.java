/** A market with all that its limits allow: all is told and found there, and nothing throws. */
public final class FullTest {
    private static final Due due = new Due();

    public static void main(String[] args) {
        GemMemos gems = fullMarket();
        counts(gems);
        found(gems);
        lateOnes(gems);
        wildArguments();
        due.end();
    }

    /** Six dealers; 20 stones of dealer 0, of 100 to 119, all lent by ten memos to dealer 1. */
    private static GemMemos fullMarket() {
        GemMemos gems = Due.withDealers(6);
        for (int i = 0; i < 20; i++) {
            gems.stone(0, 100 + i, 1, 1);
        }
        for (int i = 0; i < 24; i++) {
            gems.rate(4, i % 6 + 1, i / 6 + 1, 100);
        }
        for (int i = 0; i < 10; i++) {
            due.is("lend", gems.lend(0, 1, 90 - i, 3 << 2 * i), i);
        }
        Due.typeAll(gems, "wait 1;wait 1;wait 1;wait 1;wait 1;wait 1;wait 01;wait 0001;");
        return gems;
    }

    private static void counts(GemMemos gems) {
        int[] dues = {6, 20, 0, 20, 10, 10, 24, 0, Due.BASE, 0, 0, 4, 60, 0, 3, 10};
        for (int what = 0; what < dues.length; what++) {
            due.is("count(" + what + ")", gems.count(what), dues[what]);
        }
        due.is("all owned", gems.dealerOf(0, 1), (1 << 20) - 1);
        due.is("none held", gems.dealerOf(0, 2), 0);
        due.is("all held", gems.dealerOf(1, 2), (1 << 20) - 1);
        due.is("worth", gems.dealerOf(0, 3), 2190);
        due.is("asked", gems.dealerOf(1, 4), 2190);
        due.is("lent", gems.dealerOf(0, 5), 2190);
        due.is("the last dealer", gems.dealerOf(5, 0), Due.BASE);
        due.is("the last memo", gems.memoOf(9, 3), 3 << 18);
        due.is("no room", gems.dealer(), Due.LIMIT);
        due.is("no room", gems.stone(5, 5, 5, 5), Due.LIMIT);
        due.is("no room", gems.rate(0, 5, 5, 5), Due.LIMIT);
        due.is("all out", gems.lend(0, 1, 5, 1), Due.NOT_POSSIBLE);
        due.is("no room", gems.type(65), Due.LIMIT);
        due.is("no fault", gems.fault(0), Due.NOT_FOUND);
    }

    private static void found(GemMemos gems) {
        due.is("best", gems.best(1, 99999), 19);
        due.is("best", gems.best(1, 110), 10);
        due.is("best", gems.best(0, 99999), Due.NOT_FOUND);
        due.is("pair", gems.pair(1, 0), 0);
        due.is("pair", gems.pair(1, 1), 1);
        due.is("pair", gems.pair(1, 2), 1);
        due.is("pair", gems.pair(0, 0), Due.NOT_FOUND);
        due.is("grades", gems.grades(1), 1);
        due.is("the last one too", gems.grade(19, 2, 2), 11);
        due.is("grades", gems.grades(1), 2);
        gems.undo();
    }

    private static void lateOnes(GemMemos gems) {
        due.is("play", gems.play(), 8);
        due.is("time", gems.count(7), 8);
        due.is("no one late", gems.pause(76), 0);
        due.is("the last two late", gems.pause(1), 2);
        due.is("the others", gems.pause(99), 18);
        due.is("sum", gems.dealerOf(0, 0), Due.BASE + 2190 + 210);
        due.is("all together", gems.count(8), Due.BASE);
        due.is("all late", gems.count(10), 20);
        for (int i = 0; i < 20; i++) {
            gems.sell(i, 9999);
        }
        due.is("all sold", gems.count(2), 20);
        due.is("for", gems.count(9), 20 * 9999);
        due.is("worth", gems.dealerOf(1, 3), 0);
        due.is("none held", gems.grades(1), 0);
    }

    /** Calls with arguments out of every range, in an empty and in a full market. */
    private static void wildArguments() {
        int[] wild = {Integer.MIN_VALUE, -100000000, -1, 32, 33, 64, 65536, 100000000,
            Integer.MAX_VALUE};
        for (GemMemos gems : new GemMemos[] {new GemMemos(), fullMarket()}) {
            int[] was = Picture.of(gems);
            int length = gems.count(12);
            for (int w : wild) {
                int[] answers = {gems.stone(w, 5, 5, 5), gems.stone(0, w, w, w),
                    gems.rate(w, w, w, w), gems.unrate(w, w, w), gems.lend(w, w, w, w),
                    gems.lend(w, 1, 5, 1), gems.lend(0, w, 5, 1), gems.lend(0, 1, w > 90 ? w : 0, 1),
                    gems.back(w), gems.keep(w), gems.sell(w, w), gems.sell(w, 5),
                    gems.grade(w, w, w), gems.grade(w, 5, 5), gems.set(w, w), gems.set(w, 5),
                    gems.stoneOf(w, 0), gems.stoneOf(0, w), gems.dealerOf(w, 0),
                    gems.dealerOf(0, w), gems.memoOf(w, 0), gems.memoOf(0, w),
                    gems.rateOf(w, 0, 0, 0), gems.rateOf(0, 0, 0, w), gems.count(w),
                    gems.best(w, 5), gems.pair(w, 0), gems.pair(0, w), gems.grades(w),
                    gems.fault(w)};
                for (int i = 0; i < answers.length; i++) {
                    due.is("wild " + w + " in call " + i, answers[i], Due.INVALID);
                }
            }
            due.holds("nothing is changed", java.util.Arrays.equals(was, Picture.of(gems)));
            due.is("nor the text", gems.count(12), length);
        }
    }
}
