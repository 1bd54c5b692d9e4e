import java.util.Arrays;
import java.util.function.ToIntFunction;

/** Each sentence of "Changes and errors" that names an edge. */
public final class EdgesOfErrorsTest {
    private static final Due due = new Due();

    public static void main(String[] args) {
        changes();
        noChanges();
        recorded();
        notRecorded();
        invalidFirst();
        notPossibleThen();
        limitThen();
        nothingIsChanged();
        noSuchOne();
        due.end();
    }

    /** A call, so that one list of them can be held against more than one object. */
    private interface Call extends ToIntFunction<GemMemos> {
    }

    private static void changes() {
        due.sentence("Changes and errors", "The changes are the calls of stone, dealer, rate, "
                + "unrate, lend, back, keep, sell, grade, pause, set, restore and play that "
                + "return no error");
        Call[] calls = {g -> g.stone(0, 5, 5, 5), g -> g.dealer(), g -> g.rate(0, 0, 0, 5),
            g -> g.rate(4, 5, 5, 100), g -> g.unrate(4, 5, 5), g -> g.lend(0, 1, 5, 8),
            g -> g.back(0), g -> g.keep(0), g -> g.sell(3, 5), g -> g.grade(3, 9, 7),
            g -> g.grade(3, 5, 5), g -> g.pause(1), g -> g.set(0, 4), g -> g.set(0, 3),
            g -> g.set(1, 10), g -> g.restore(), g -> g.play()};
        for (int i = 0; i < calls.length; i++) {
            GemMemos gems = Markets.lent();
            gems.mark();
            while (gems.count(11) > 1) {
                gems.undo();
            }
            gems.restore();
            int states = gems.count(11);
            int[] was = Picture.of(gems);
            due.holds("call " + i + " returns no error", calls[i].applyAsInt(gems) >= 0);
            due.is("call " + i + " is a change", gems.count(11), states + 1);
            due.is("call " + i + " can be undone", gems.undo(), states);
            due.holds("call " + i + " is undone", Arrays.equals(was, Picture.of(gems)));
        }
    }

    private static void noChanges() {
        due.sentence("Changes and errors", "The changes are the calls of");
        GemMemos gems = Markets.lent();
        gems.undo();
        gems.undo();
        Call[] calls = {g -> g.stoneOf(0, 0), g -> g.dealerOf(0, 0), g -> g.memoOf(0, 0),
            g -> g.rateOf(4, 5, 5, 0), g -> g.count(0), g -> g.best(0, 500), g -> g.pair(0, 0),
            g -> g.grades(0), g -> g.mark(), g -> g.type(65), g -> g.fault(0),
            g -> g.clearText()};
        for (int i = 0; i < calls.length; i++) {
            calls[i].applyAsInt(gems);
            due.is("call " + i + " is none", gems.count(11), 2);
        }
        due.is("nor is undo", gems.undo(), 1);
        due.is("nor is undo", gems.count(11), 1);
    }

    private static void recorded() {
        due.sentence("Changes and errors", "A history of at most 4 states is kept");
        GemMemos gems = new GemMemos();
        int[] states = {0, 1, 2, 3, 4, 4, 4, 4};
        for (int i = 0; i < states.length; i++) {
            due.is("after " + i, gems.count(11), states[i]);
            gems.pause(i + 1);
        }
        due.sentence("Changes and errors", "if there are 5 states then, the oldest one is dropped");
        int[] times = {28, 21, 15, 10};
        for (int i = 0; i < 4; i++) {
            due.is("undo", gems.undo(), 3 - i);
            due.is("time", gems.count(7), times[i]);
        }
        due.is("the oldest are no more", gems.undo(), Due.NOT_POSSIBLE);
        due.is("time", gems.count(7), 10);
    }

    private static void notRecorded() {
        due.sentence("Changes and errors", "records everything before it but the text and the "
                + "snapshot");
        GemMemos gems = new GemMemos();
        Due.typeAll(gems, "wait 1;");
        gems.pause(10);
        Due.retype(gems, "wait 2;wait 3;");
        gems.mark();
        gems.pause(10);
        due.is("undo", gems.undo(), 1);
        due.is("undo", gems.undo(), 0);
        due.is("time", gems.count(7), 0);
        due.is("the text is the later one", gems.count(12), 14);
        due.is("the snapshot is there yet", gems.count(13), 1);
        due.is("and as it was", gems.restore(), 10);
        due.is("the text is the later one", gems.play(), 2);
        due.is("time", gems.count(7), 15);
    }

    private static void dueFor(String which, GemMemos gems, int error, Call... calls) {
        for (int i = 0; i < calls.length; i++) {
            Call call = calls[i];
            due.refused(which + ", call " + i, gems, () -> call.applyAsInt(gems), error);
        }
    }

    /** All that can be full is full: dealers, stones, entries, memos, text, time. */
    private static GemMemos full() {
        GemMemos gems = Markets.until(Markets.twentyStones(100), 2000);
        for (int i = 0; i < 4; i++) {
            gems.dealer();
        }
        for (int i = 0; i < 24; i++) {
            gems.rate(4, i % 8, i / 8 + 5, 100);
        }
        for (int i = 0; i < 10; i++) {
            gems.lend(0, 1, 5, 1);
            gems.back(0);
        }
        gems.sell(1, 5);
        gems.grade(2, 9, 7);
        for (int i = 0; i < 60; i++) {
            gems.type(65);
        }
        return gems;
    }

    private static void invalidFirst() {
        due.sentence("Changes and errors", "INVALID_ARGUMENT is returned rather than NOT_POSSIBLE");
        dueFor("and NOT_POSSIBLE", Markets.lent(), Due.INVALID, g -> g.lend(0, 0, 5, 1),
                g -> g.lend(0, 2, 0, 1), g -> g.lend(0, 2, 91, 1), g -> g.lend(0, 3, 5, 1),
                g -> g.lend(0, 2, 5, 33), g -> g.sell(0, 0), g -> g.sell(0, 10000));
        GemMemos sold = Markets.small();
        sold.sell(0, 5);
        dueFor("sold", sold, Due.INVALID, g -> g.sell(0, 0), g -> g.grade(0, 10, 0),
                g -> g.grade(0, 0, 8), g -> g.grade(0, -1, 0), g -> g.lend(0, 1, 0, 1));
        dueFor("no entries", new GemMemos(), Due.INVALID, g -> g.unrate(5, 0, 0),
                g -> g.unrate(0, 10, 0), g -> g.unrate(0, 0, 8));
        due.sentence("Changes and errors", "rather than LIMIT_REACHED");
        dueFor("and LIMIT_REACHED", full(), Due.INVALID, g -> g.stone(6, 5, 5, 5),
                g -> g.stone(0, 0, 5, 5), g -> g.stone(0, 5, 10, 5), g -> g.stone(0, 5, 5, 8),
                g -> g.rate(5, 0, 0, 5), g -> g.rate(0, 0, 0, 0), g -> g.lend(0, 0, 5, 1),
                g -> g.lend(0, 1, 91, 1), g -> g.pause(0), g -> g.pause(100), g -> g.type(31),
                g -> g.type(127));
        due.sentence("Changes and errors", "rather than NOT_FOUND");
        dueFor("and NOT_FOUND", Markets.small(), Due.INVALID, g -> g.stoneOf(5, 7),
                g -> g.stoneOf(0, 11), g -> g.rateOf(0, 0, 0, 2), g -> g.rateOf(0, 10, 0, 0),
                g -> g.best(2, -1), g -> g.best(2, 100000), g -> g.best(3, 0), g -> g.pair(2, 3),
                g -> g.pair(3, 0), g -> g.fault(3), g -> g.fault(-1));
    }

    private static void notPossibleThen() {
        due.sentence("Changes and errors", "NOT_POSSIBLE rather than LIMIT_REACHED");
        GemMemos gems = full();
        dueFor("another's, sold, without a price", gems, Due.NOT_POSSIBLE,
                g -> g.lend(1, 0, 5, 1), g -> g.lend(0, 1, 5, 2), g -> g.lend(0, 1, 5, 4),
                g -> g.lend(0, 1, 5, 7));
    }

    private static void limitThen() {
        due.sentence("The constants", "A fixed limit has been reached");
        dueFor("full", full(), Due.LIMIT, g -> g.dealer(), g -> g.stone(0, 5, 5, 5),
                g -> g.rate(0, 0, 0, 5), g -> g.lend(0, 1, 5, 1), g -> g.pause(1),
                g -> g.type(65));
    }

    /** Calls that are due to return an error in the market of nothingIsChanged. */
    private static final Call[] REFUSED = {g -> g.stone(-1, 5, 5, 5), g -> g.stone(0, 0, 5, 5),
        g -> g.rate(5, 0, 0, 5), g -> g.rate(4, 5, 5, 0), g -> g.unrate(0, 9, 7),
        g -> g.unrate(0, 0, 8), g -> g.lend(0, 0, 5, 1), g -> g.lend(0, 1, 5, 1 << 19),
        g -> g.lend(0, 1, 0, 8), g -> g.lend(0, 1, 5, 16), g -> g.lend(0, 1, 5, 24),
        g -> g.back(4), g -> g.back(-1), g -> g.keep(4), g -> g.keep(20), g -> g.sell(0, 0),
        g -> g.sell(-1, 5), g -> g.grade(3, 10, 0), g -> g.grade(-1, 0, 0), g -> g.pause(0),
        g -> g.pause(100), g -> g.set(0, 31), g -> g.set(2, 0), g -> g.stoneOf(20, 0),
        g -> g.dealerOf(6, 0), g -> g.memoOf(10, 0), g -> g.rateOf(0, 9, 7, 1),
        g -> g.count(16), g -> g.best(2, 100000), g -> g.pair(2, 3), g -> g.grades(6),
        g -> g.type(31), g -> g.fault(3)};

    /** What is done in both markets; the texts there have a fault. */
    private static final Call[] STEPS = {g -> g.dealer(), g -> g.dealer(), g -> g.dealer(),
        g -> g.stone(0, 100, 5, 5), g -> g.stone(0, 200, 5, 5), g -> g.stone(0, 300, 5, 5),
        g -> g.stone(0, 400, 5, 5), g -> g.stone(1, 500, 5, 5), g -> g.rate(4, 5, 5, 100),
        g -> g.rate(4, 6, 6, 150), g -> g.lend(0, 1, 1, 3), g -> g.lend(0, 2, 30, 4),
        g -> g.type('x'), g -> g.mark(), g -> g.keep(0), g -> g.grade(1, 6, 6), g -> g.pause(7),
        g -> g.set(0, 8), g -> g.unrate(4, 6, 6), g -> g.type(';'), g -> g.back(2),
        g -> g.undo(), g -> g.sell(3, 77), g -> g.restore(), g -> g.undo(), g -> g.set(1, 4),
        g -> g.undo(), g -> g.undo(), g -> g.undo(), g -> g.undo(), g -> g.restore(),
        g -> g.undo()};

    /** Two objects with the same steps, errors between those of the one: no answer differs. */
    private static void nothingIsChanged() {
        due.sentence("Changes and errors", "A call that returns an error changes nothing");
        GemMemos plain = new GemMemos();
        GemMemos mixed = new GemMemos();
        for (int s = 0; s < STEPS.length; s++) {
            for (int r = 0; r < REFUSED.length; r++) {
                due.holds("refused " + r + ", step " + s, REFUSED[r].applyAsInt(mixed) < 0);
            }
            if (s > STEPS.length / 2) {
                due.is("play of a fault", mixed.play(), Due.NOT_POSSIBLE);
            }
            due.is("step " + s, STEPS[s].applyAsInt(mixed), STEPS[s].applyAsInt(plain));
            due.holds("all after step " + s,
                    Arrays.equals(Picture.ofAll(mixed), Picture.ofAll(plain)));
        }
        while (plain.count(11) > 0) {
            due.is("undo", mixed.undo(), plain.undo());
            due.holds("all", Arrays.equals(Picture.ofAll(mixed), Picture.ofAll(plain)));
        }
        due.is("undo", mixed.undo(), Due.NOT_POSSIBLE);
    }

    private static void noSuchOne() {
        due.sentence("Changes and errors", "If there is no stone, dealer or memo with a certain "
                + "number, this is INVALID_ARGUMENT");
        GemMemos gems = Markets.lent();
        for (int none : Due.noneOf(5)) {
            dueFor("stone " + none, gems, Due.INVALID, g -> g.back(none), g -> g.keep(none),
                    g -> g.sell(none, 5), g -> g.grade(none, 5, 5), g -> g.stoneOf(none, 0));
        }
        for (int none : Due.noneOf(3)) {
            dueFor("dealer " + none, gems, Due.INVALID, g -> g.stone(none, 5, 5, 5),
                    g -> g.lend(none, 1, 5, 8), g -> g.lend(0, none, 5, 8),
                    g -> g.dealerOf(none, 0), g -> g.best(none, 5), g -> g.pair(none, 0),
                    g -> g.grades(none));
        }
        for (int none : Due.noneOf(1)) {
            dueFor("memo " + none, gems, Due.INVALID, g -> g.memoOf(none, 0));
        }
        due.sentence("Changes and errors", "rather than NOT_POSSIBLE");
        dueFor("a stone of none", new GemMemos(), Due.INVALID, g -> g.back(0), g -> g.keep(0),
                g -> g.sell(0, 5), g -> g.grade(0, 5, 5), g -> g.stoneOf(0, 0));
    }
}
