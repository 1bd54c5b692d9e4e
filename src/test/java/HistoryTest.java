/** Promises 21 to 23: snapshot and undo; what is a change, and what a state holds. */
public final class HistoryTest {
    private static final Due due = new Due();

    public static void main(String[] args) {
        fourStates();
        whatIsAChange();
        eachChangeIsUndone();
        oneMemoForAnother();
        newOnesInThePlaceOfUndone();
        snapshots();
        snapshotHoldsAll();
        textAndSnapshotAreNoState();
        due.end();
    }

    private static void fourStates() {
        GemMemos gems = new GemMemos();
        due.is("empty", gems.undo(), Due.NOT_POSSIBLE);
        for (int i = 0; i < 6; i++) {
            gems.pause(1);
            due.is("count(11)", gems.count(11), Math.min(i + 1, 4));
        }
        for (int i = 3; i >= 0; i--) {
            due.is("undo", gems.undo(), i);
            due.is("time", gems.count(7), i + 2);
        }
        due.is("undo", gems.undo(), Due.NOT_POSSIBLE);
        due.is("time", gems.count(7), 2);
        gems.pause(50);
        due.is("count(11)", gems.count(11), 1);
        due.is("undo", gems.undo(), 0);
        due.is("time", gems.count(7), 2);
    }

    private static void whatIsAChange() {
        GemMemos gems = Due.withDealers(2);
        gems.stone(0, 100, 0, 0);
        gems.undo();
        gems.undo();
        gems.undo();
        gems.dealer();
        gems.dealer();
        gems.undo();
        due.is("one", gems.count(11), 1);
        due.is("dealers", gems.count(0), 1);
        gems.stone(5, 5, 5, 5);
        gems.rate(0, 0, 0, 0);
        gems.unrate(0, 0, 0);
        gems.lend(0, 0, 0, 0);
        gems.back(0);
        gems.keep(0);
        gems.sell(0, 0);
        gems.grade(0, 0, 0);
        gems.pause(0);
        gems.set(2, 0);
        gems.restore();
        Due.typeAll(gems, "x");
        gems.play();
        gems.fault(0);
        gems.clearText();
        gems.mark();
        gems.best(0, 5);
        due.is("errors, mark and tells are none", gems.count(11), 1);
        gems.set(0, 3);
        due.is("set to what it was", gems.count(11), 2);
        gems.restore();
        due.is("restore", gems.count(11), 3);
        gems.play();
        due.is("play of nothing", gems.count(11), 4);
        due.is("undo", gems.undo(), 3);
        due.is("undo", gems.undo(), 2);
        due.is("undo", gems.undo(), 1);
    }

    private static void eachChangeIsUndone() {
        GemMemos gems = Due.withDealers(2);
        gems.stone(0, 100, 0, 0);
        gems.stone(0, 200, 0, 0);
        gems.stone(0, 300, 0, 0);
        gems.rate(4, 0, 0, 100);
        gems.rate(4, 3, 3, 70);
        gems.lend(0, 1, 5, 3);
        undone(gems, "dealer", () -> gems.dealer());
        undone(gems, "stone", () -> gems.stone(1, 400, 0, 0));
        undone(gems, "rate", () -> gems.rate(4, 0, 0, 200));
        undone(gems, "new rate", () -> gems.rate(4, 1, 1, 200));
        undone(gems, "unrate", () -> gems.unrate(4, 0, 0));
        undone(gems, "lend", () -> gems.lend(0, 1, 5, 4));
        undone(gems, "back", () -> gems.back(0));
        undone(gems, "keep", () -> gems.keep(1));
        undone(gems, "sell", () -> gems.sell(2, 50));
        undone(gems, "grade", () -> gems.grade(0, 3, 3));
        undone(gems, "pause", () -> gems.pause(99));
        undone(gems, "set 0", () -> gems.set(0, 9));
        undone(gems, "set 1", () -> gems.set(1, 99));
        Due.typeAll(gems, "sell 2 40;");
        undone(gems, "play", () -> gems.play());
        gems.mark();
        gems.pause(1);
        undone(gems, "restore", () -> gems.restore());
    }

    /** Another change goes ahead, so that the state before is told from an older one. */
    private static void undone(GemMemos gems, String what, Runnable change) {
        gems.rate(0, 9, 7, gems.rateOf(0, 9, 7, 1) == 1 ? 2 : 1);
        int[] was = Picture.of(gems);
        change.run();
        due.holds(what + " does something", !java.util.Arrays.equals(was, Picture.of(gems)));
        gems.undo();
        due.holds(what + " is undone", java.util.Arrays.equals(was, Picture.of(gems)));
    }

    private static void oneMemoForAnother() {
        GemMemos gems = Due.withDealers(4);
        gems.stone(0, 100, 1, 1);
        gems.stone(1, 200, 2, 2);
        gems.rate(4, 2, 2, 100);
        gems.lend(0, 1, 5, 1);
        int[] was = Picture.of(gems);
        gems.mark();
        gems.undo();
        gems.lend(1, 3, 9, 2);
        gems.keep(1);
        int[] then = Picture.of(gems);
        gems.restore();
        due.holds("the memo of the snapshot", java.util.Arrays.equals(was, Picture.of(gems)));
        gems.undo();
        due.holds("the memo of then", java.util.Arrays.equals(then, Picture.of(gems)));
    }

    private static void newOnesInThePlaceOfUndone() {
        GemMemos gems = Due.withDealers(2);
        gems.rate(4, 5, 5, 100);
        gems.mark();
        gems.stone(0, 100, 5, 5);
        gems.lend(0, 1, 5, 1);
        gems.keep(0);
        gems.sell(0, 40);
        gems.restore();
        due.is("stone anew", gems.stone(1, 200, 5, 5), 0);
        due.is("not kept", gems.stoneOf(0, 10), 0);
        due.is("not sold", gems.stoneOf(0, 9), Due.NOT_FOUND);
        due.is("owner", gems.stoneOf(0, 4), 1);
        due.is("memo anew", gems.lend(1, 0, 5, 1), 0);
        due.is("none kept of it", gems.memoOf(0, 5), 0);
        due.is("asked", gems.stoneOf(0, 8), 200);
    }

    private static void snapshots() {
        GemMemos gems = new GemMemos();
        due.is("none", gems.restore(), Due.NOT_POSSIBLE);
        gems.pause(4);
        due.is("mark", gems.mark(), 4);
        gems.pause(5);
        due.is("restore", gems.restore(), 4);
        due.is("time", gems.count(7), 4);
        gems.pause(2);
        due.is("it stays", gems.restore(), 4);
        due.is("undo", gems.undo(), 3);
        due.is("time", gems.count(7), 6);
        due.is("mark anew", gems.mark(), 6);
        gems.pause(1);
        due.is("the new one", gems.restore(), 6);
        gems.undo();
        gems.undo();
        due.is("undo leaves the snapshot", gems.restore(), 6);
        due.is("count(13)", gems.count(13), 1);
    }

    private static void snapshotHoldsAll() {
        GemMemos gems = Due.withDealers(2);
        gems.stone(0, 100, 0, 0);
        gems.stone(0, 200, 0, 0);
        gems.stone(1, 300, 0, 0);
        gems.stone(0, 400, 0, 0);
        gems.rate(4, 0, 0, 100);
        gems.rate(4, 5, 5, 90);
        gems.lend(0, 1, 1, 1);
        gems.lend(0, 1, 30, 2);
        gems.sell(2, 77);
        gems.pause(10);
        gems.set(0, 7);
        gems.set(1, 8);
        int[] was = Picture.of(gems);
        gems.mark();
        gems.dealer();
        gems.stone(2, 5, 5, 5);
        gems.rate(4, 5, 5, 91);
        gems.unrate(4, 0, 0);
        gems.rate(3, 3, 3, 3);
        gems.keep(1);
        gems.lend(0, 2, 6, 8);
        gems.grade(1, 4, 4);
        gems.sell(0, 5);
        gems.set(0, 0);
        gems.set(1, 1);
        gems.pause(20);
        int[] then = Picture.of(gems);
        due.is("restore", gems.restore(), 10);
        due.holds("all is as it was", java.util.Arrays.equals(was, Picture.of(gems)));
        gems.undo();
        due.holds("all is as it was then", java.util.Arrays.equals(then, Picture.of(gems)));
    }

    private static void textAndSnapshotAreNoState() {
        GemMemos gems = new GemMemos();
        Due.typeAll(gems, "wait 5;");
        due.is("typing is no change", gems.count(11), 0);
        gems.pause(1);
        gems.mark();
        gems.play();
        Due.typeAll(gems, "wait 6;");
        due.is("undo", gems.undo(), 1);
        due.is("the text stays", gems.count(12), 14);
        gems.restore();
        due.is("the text stays", gems.count(12), 14);
        gems.clearText();
        gems.undo();
        gems.undo();
        due.is("time", gems.count(7), 0);
        due.is("the text stays empty", gems.count(12), 0);
        due.is("the snapshot stays", gems.count(13), 1);
        due.is("restore", gems.restore(), 1);
    }
}
