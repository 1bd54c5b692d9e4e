/** Promises 24 to 27: texts, their faults, and play. */
public final class TextsTest {
    private static final Due due = new Due();

    public static void main(String[] args) {
        types();
        goodForms();
        badForms();
        refusals();
        positions();
        whatOfFaults();
        plays();
        playWithFault();
        eachCommand();
        due.end();
    }

    private static GemMemos market() {
        GemMemos gems = Due.withDealers(2);
        gems.stone(0, 100, 5, 5);
        gems.stone(0, 200, 5, 5);
        gems.stone(1, 300, 5, 5);
        gems.rate(4, 5, 5, 100);
        return gems;
    }

    private static void types() {
        GemMemos gems = new GemMemos();
        due.is("bad", gems.type(31), Due.INVALID);
        due.is("bad", gems.type(127), Due.INVALID);
        due.is("bad", gems.type(-1), Due.INVALID);
        due.is("bad", gems.type(65536 + 50), Due.INVALID);
        due.is("clearText of nothing", gems.clearText(), 0);
        for (int i = 1; i <= 60; i++) {
            due.is("type", gems.type(i == 1 ? 32 : 126), i);
        }
        due.is("61st", gems.type(65), Due.LIMIT);
        due.is("61st, bad", gems.type(31), Due.INVALID);
        due.is("count(12)", gems.count(12), 60);
        due.is("clearText", gems.clearText(), 60);
        due.is("count(12)", gems.count(12), 0);
        due.is("type", gems.type(65), 1);
        due.is("clearText", gems.clearText(), 1);
        due.is("no fault then", gems.fault(0), Due.NOT_FOUND);
    }

    private static void dueFault(GemMemos gems, String text, int at, int reason, int cause) {
        Due.retype(gems, text);
        due.is("[" + text + "] position", gems.fault(0), at);
        due.is("[" + text + "] reason", gems.fault(1), reason);
        due.is("[" + text + "] cause", gems.fault(2), cause);
        if (at != Due.NOT_FOUND) {
            due.is("[" + text + "] play", gems.play(), Due.NOT_POSSIBLE);
        }
    }

    private static void goodForms() {
        String[] texts = {"", "wait 1;", "wait 01;", "wait 0099;", "lend 0 1 5 0;",
            "lend 0000 0001 0090 0001;", "sell 0 9999;", "grade 0 9 7;", "rate 0 0 0 1;",
            "rate 4 9 7 9999;", "wait 1;wait 1;wait 1;wait 1;wait 1;wait 1;wait 1;wait 1;",
            "lend 0 1 5 0;back 0;", "lend 0 1 5 0;keep 0;"};
        for (String text : texts) {
            dueFault(market(), text, Due.NOT_FOUND, Due.NOT_FOUND, Due.NOT_FOUND);
        }
    }

    private static void badForms() {
        String[] texts = {";", " ", "w", "wait", "wait ", "wait 1", "wait;", "wait ;", "wait 1 ;",
            " wait 1;", "wait  1;", "wait 1 1;", "wait1;", "Wait 1;", "wai 1;", "waits 1;",
            "wait 00001;", "wait 12345;", "wait -1;", "wait +1;", "wait a;", "wait 1a;",
            "wait /;", "wait :;", "wait 1,", "sell 0;", "sell 0 1 2;", "sell 0  1;", "back 0 0;",
            "keep;", "keep 0 1;", "grade 0 1;", "grade 0 1 2 3;", "lend 0 1 5;",
            "lend 0 1 5 0 0;", "rate 0 0 0;", "rate 0 0 0 1 1;", "rate 0 0 0 1", "unrate 0 0 0;",
            "pause 1;", "dealer;", "stone 0 5 0 0;", "set 0 1;", "lend", "0;", "wait 1;;"};
        for (String text : texts) {
            boolean second = text.equals("wait 1;;");
            dueFault(market(), text, second ? 7 : 0, 1, Due.NOT_FOUND);
        }
    }

    private static void refusals() {
        dueFault(market(), "lend 0 1 5 3;", 0, 2, Due.INVALID);
        dueFault(market(), "lend 0 1 5 20;", 0, 2, Due.INVALID);
        dueFault(market(), "lend 0 1 5 31;", 0, 2, Due.INVALID);
        dueFault(market(), "lend 0 1 5 32;", 0, 2, Due.INVALID);
        dueFault(market(), "lend 0 1 5 33;", 0, 2, Due.INVALID);
        dueFault(market(), "lend 0 1 5 9999;", 0, 2, Due.INVALID);
        dueFault(market(), "lend 0 0 5 0;", 0, 2, Due.INVALID);
        dueFault(market(), "lend 0 2 5 0;", 0, 2, Due.INVALID);
        dueFault(market(), "lend 2 1 5 0;", 0, 2, Due.INVALID);
        dueFault(market(), "lend 0 1 0 0;", 0, 2, Due.INVALID);
        dueFault(market(), "lend 0 1 91 0;", 0, 2, Due.INVALID);
        dueFault(market(), "lend 0 1 5 2;", 0, 2, Due.NOT_POSSIBLE);
        dueFault(market(), "back 3;", 0, 2, Due.INVALID);
        dueFault(market(), "back 2;", 0, 2, Due.NOT_POSSIBLE);
        dueFault(market(), "keep 9999;", 0, 2, Due.INVALID);
        dueFault(market(), "keep 0;", 0, 2, Due.NOT_POSSIBLE);
        dueFault(market(), "sell 0 0;", 0, 2, Due.INVALID);
        dueFault(market(), "sell 3 5;", 0, 2, Due.INVALID);
        dueFault(market(), "sell 0 5;sell 0 5;", 9, 2, Due.NOT_POSSIBLE);
        dueFault(market(), "grade 0 10 0;", 0, 2, Due.INVALID);
        dueFault(market(), "grade 0 0 8;", 0, 2, Due.INVALID);
        dueFault(market(), "sell 1 5;grade 1 0 0;", 9, 2, Due.NOT_POSSIBLE);
        dueFault(market(), "rate 5 0 0 1;", 0, 2, Due.INVALID);
        dueFault(market(), "rate 0 0 0 0;", 0, 2, Due.INVALID);
        dueFault(market(), "wait 0;", 0, 2, Due.INVALID);
        dueFault(market(), "wait 0100;", 0, 2, Due.INVALID);
        GemMemos full = market();
        for (int i = 0; i < 23; i++) {
            full.rate(0, i % 10, i / 10, 5);
        }
        dueFault(full, "rate 0 0 0 6;rate 3 0 0 5;", 13, 2, Due.LIMIT);
        GemMemos late = market();
        for (int i = 0; i < 20; i++) {
            late.pause(99);
        }
        dueFault(late, "wait 20;", Due.NOT_FOUND, Due.NOT_FOUND, Due.NOT_FOUND);
        dueFault(late, "wait 10;wait 11;", 8, 2, Due.LIMIT);
        GemMemos ten = market();
        for (int i = 0; i < 10; i++) {
            ten.lend(0, 1, 5, 1);
            ten.back(0);
        }
        dueFault(ten, "wait 1;lend 0 1 5 0;", 7, 2, Due.LIMIT);
    }

    private static void positions() {
        dueFault(market(), "lend 0 1 5 0;back 0;back 0;", 20, 2, Due.NOT_POSSIBLE);
        dueFault(market(), "lend 0 1 5 0;back 0;back 0", 20, 1, Due.NOT_FOUND);
        dueFault(market(), "back 0;x", 0, 2, Due.NOT_POSSIBLE);
        dueFault(market(), "wait 1;x;back 0;", 7, 1, Due.NOT_FOUND);
        dueFault(market(), "wait 1; wait 1;", 7, 1, Due.NOT_FOUND);
        dueFault(market(), "wait 1;wait 0;wait", 7, 2, Due.INVALID);
        dueFault(market(), "lend 0 1 1 0;wait 5;sell 0 5;", Due.NOT_FOUND, Due.NOT_FOUND,
                Due.NOT_FOUND);
        dueFault(market(), "lend 0 1 1 0;wait 4;sell 0 5;", 20, 2, Due.NOT_POSSIBLE);
        dueFault(market(), "wait 1;wait 1;wait 1;wait 1;wait 1;wait 1;wait 1;wait 1;wait", 56, 1,
                Due.NOT_FOUND);
    }

    private static void whatOfFaults() {
        GemMemos gems = market();
        due.is("bad", gems.fault(-1), Due.INVALID);
        due.is("bad", gems.fault(3), Due.INVALID);
        Due.typeAll(gems, "x");
        due.is("bad", gems.fault(3), Due.INVALID);
        int[] was = Picture.of(gems);
        int states = gems.count(11);
        Due.retype(gems, "lend 0 1 5 1;wait 99;keep 0;");
        due.is("late by then", gems.fault(0), 21);
        due.is("late by then", gems.fault(2), Due.NOT_POSSIBLE);
        due.holds("fault changes nothing", java.util.Arrays.equals(was, Picture.of(gems)));
        due.is("nor the history", gems.count(11), states);
        gems.stone(0, 5, 0, 0);
        Due.retype(gems, "lend 0 1 5 3;");
        due.is("no price", gems.fault(2), Due.NOT_POSSIBLE);
        gems.rate(0, 0, 0, 5);
        due.is("told anew", gems.fault(2), Due.NOT_FOUND);
    }

    private static void plays() {
        GemMemos gems = market();
        gems.undo();
        gems.undo();
        gems.undo();
        gems.undo();
        due.is("nothing", gems.play(), 0);
        due.is("is a change", gems.count(11), 1);
        gems = market();
        gems.mark();
        Due.typeAll(gems, "lend 0 1 5 0;lend 0 1 5 1;keep 0;wait 9;sell 1 40;");
        int[] was = Picture.of(gems);
        due.is("play", gems.play(), 5);
        due.is("kept", gems.stoneOf(0, 4), 1);
        due.is("late", gems.count(10), 1);
        due.is("sold", gems.stoneOf(1, 9), 40);
        due.is("balance", gems.dealerOf(1, 0), Due.BASE - 100 - 220 + 40);
        due.is("the text stays", gems.count(12), 50);
        due.is("states", gems.count(11), 4);
        due.is("now it is not possible", gems.play(), Due.NOT_POSSIBLE);
        due.is("one change", gems.undo(), 3);
        due.holds("all undone", java.util.Arrays.equals(was, Picture.of(gems)));
        due.is("play again", gems.play(), 5);
    }

    private static void playWithFault() {
        GemMemos gems = market();
        int[] was = Picture.of(gems);
        Due.typeAll(gems, "wait 5;sell 0 9;back 1;");
        due.is("fault", gems.play(), Due.NOT_POSSIBLE);
        due.holds("nothing is done", java.util.Arrays.equals(was, Picture.of(gems)));
        Due.retype(gems, "wait 5;sell 0 9");
        due.is("fault", gems.play(), Due.NOT_POSSIBLE);
        due.holds("nothing is done", java.util.Arrays.equals(was, Picture.of(gems)));
        due.is("the text stays", gems.count(12), 15);
    }

    private static void eachCommand() {
        GemMemos gems = market();
        Due.typeAll(gems, "lend 0 1 12 1;");
        due.is("lend", gems.play(), 1);
        due.is("from", gems.memoOf(0, 0), 0);
        due.is("to", gems.memoOf(0, 1), 1);
        due.is("days", gems.memoOf(0, 2), 12);
        due.is("stone", gems.memoOf(0, 4), 2);
        Due.retype(gems, "back 1;");
        due.is("back", gems.play(), 1);
        due.is("holder", gems.stoneOf(1, 5), 0);
        Due.retype(gems, "lend 0 1 12 0;keep 0;");
        due.is("keep", gems.play(), 2);
        due.is("owner", gems.stoneOf(0, 4), 1);
        Due.retype(gems, "sell 2 1234;");
        due.is("sell", gems.play(), 1);
        due.is("sum", gems.stoneOf(2, 9), 1234);
        Due.retype(gems, "grade 1 8 6;");
        due.is("grade", gems.play(), 1);
        due.is("colour", gems.stoneOf(1, 1), 8);
        due.is("clarity", gems.stoneOf(1, 2), 6);
        Due.retype(gems, "rate 3 6 2 987;");
        due.is("rate", gems.play(), 1);
        due.is("rateOf", gems.rateOf(3, 6, 2, 1), 987);
        Due.retype(gems, "wait 98;");
        due.is("wait", gems.play(), 1);
        due.is("time", gems.count(7), 98);
    }
}
