/** Markets that more than one test begins with. */
final class Markets {
    private Markets() {
    }

    /** Three dealers; stones of 100 to 500, the last dealer 1's, the others dealer 0's; 100 a carat. */
    static GemMemos small() {
        GemMemos gems = Due.withDealers(3);
        for (int i = 0; i < 5; i++) {
            gems.stone(i == 4 ? 1 : 0, 100 * i + 100, 5, 5);
        }
        gems.rate(4, 5, 5, 100);
        return gems;
    }

    /** The small one, in which dealer 0 has lent the stones 0, 1 and 2 to dealer 1 for 5 days. */
    static GemMemos lent() {
        GemMemos gems = small();
        gems.lend(0, 1, 5, 7);
        return gems;
    }

    /** The small one, with ten memos that are closed. */
    static GemMemos tenMemos() {
        GemMemos gems = small();
        for (int i = 0; i < 10; i++) {
            gems.lend(0, 1, 5, 1);
            gems.back(0);
        }
        return gems;
    }

    /** One dealer with 20 stones of that weight. */
    static GemMemos twentyStones(int weight) {
        GemMemos gems = Due.withDealers(2);
        for (int i = 0; i < 20; i++) {
            gems.stone(0, weight, 5, 5);
        }
        return gems;
    }

    /** Lets days go by until that time. */
    static GemMemos until(GemMemos gems, int time) {
        while (gems.count(7) < time) {
            gems.pause(Math.min(99, time - gems.count(7)));
        }
        return gems;
    }
}
