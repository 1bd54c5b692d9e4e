/** Promises 21 to 27, one after the other: each sentence that names an edge; and "Texts". */
public final class EdgesOfTextsTest {
    private static final Due due = new Due();

    public static void main(String[] args) {
        mark();
        restore();
        undo();
        type();
        clearText();
        forms();
        numbers();
        otherForms();
        positions();
        causes();
        causesOfLimits();
        faultArguments();
        play();
        playOfMuch();
        due.end();
    }

    private static void mark() {
        due.sentence("Promise 21", "Returns the time");
        GemMemos gems = new GemMemos();
        due.is("on the day 0", gems.mark(), 0);
        due.is("no change", gems.count(11), 0);
        due.sentence("Promise 21", "in place of the one that was");
        gems.pause(1);
        due.is("a day later", gems.mark(), 1);
        gems.pause(1);
        due.is("the later one", gems.restore(), 1);
        Markets.until(gems, 2000);
        due.is("on the last day", gems.mark(), 2000);
        due.is("it is there", gems.count(13), 1);
    }

    private static void restore() {
        due.sentence("Promise 22", "NOT_POSSIBLE if there is none");
        GemMemos gems = Markets.small();
        due.refused("restore", gems, gems::restore, Due.NOT_POSSIBLE);
        due.sentence("Promise 22", "which stays");
        gems.mark();
        int[] was = Picture.of(gems);
        for (int i = 0; i < 3; i++) {
            gems.sell(0, 5);
            gems.dealer();
            due.is("restore", gems.restore(), 0);
            due.holds("all is as it was", java.util.Arrays.equals(was, Picture.of(gems)));
        }
        due.is("with nothing since", gems.restore(), 0);
        due.sentence("Promise 22", "Returns the time then");
        gems.pause(7);
        gems.mark();
        gems.pause(9);
        due.is("the time of the snapshot", gems.restore(), 7);
        due.is("of an empty one", emptySnapshot().restore(), 0);
        GemMemos less = emptySnapshot();
        less.restore();
        due.refused("a dealer who is no more", less, () -> less.stone(0, 5, 5, 5), Due.INVALID);
        less.undo();
        due.is("a dealer who is again", less.stone(0, 5, 5, 5), 1);
    }

    /** A snapshot of nothing, and a dealer with a stone since. */
    private static GemMemos emptySnapshot() {
        GemMemos gems = new GemMemos();
        gems.mark();
        gems.dealer();
        gems.stone(0, 5, 5, 5);
        return gems;
    }

    private static void undo() {
        due.sentence("Promise 23", "NOT_POSSIBLE if it is empty");
        GemMemos gems = new GemMemos();
        due.refused("a new object", gems, gems::undo, Due.NOT_POSSIBLE);
        due.sentence("Promise 23", "Returns the number of states that are left in the history");
        gems.set(0, 10);
        due.is("the only one", gems.undo(), 0);
        due.is("as it was", gems.count(14), 3);
        due.refused("undone", gems, gems::undo, Due.NOT_POSSIBLE);
        due.sentence("Changes and errors", "if there are 5 states then, the oldest one is dropped");
        for (int changes = 1; changes <= 9; changes++) {
            GemMemos many = new GemMemos();
            for (int i = 0; i < changes; i++) {
                many.set(0, 10 + i);
                due.is("states", many.count(11), Math.min(4, i + 1));
            }
            int states = Math.min(4, changes);
            for (int i = 1; i <= states; i++) {
                due.is("undo", many.undo(), states - i);
                due.is("as it was", many.count(14), i == changes ? 3 : 9 + changes - i);
            }
            due.refused("no more", many, many::undo, Due.NOT_POSSIBLE);
        }
        due.sentence("Promise 23", "Restores the latest state of the history, which is removed");
        gems.set(0, 10);
        gems.set(0, 11);
        gems.undo();
        gems.set(0, 12);
        due.is("one was removed", gems.count(11), 2);
        gems.undo();
        due.is("not the undone one", gems.count(14), 10);
    }

    private static void type() {
        due.sentence("Promise 24", "`character`: 32 to 126");
        GemMemos gems = new GemMemos();
        int[] bad = {Integer.MIN_VALUE, -1, 0, 10, 31, 127, 128, 255, 256 + 65, 65536 + 65,
            Integer.MAX_VALUE};
        for (int character : bad) {
            due.refused("type " + character, gems, () -> gems.type(character), Due.INVALID);
        }
        due.sentence("Promise 24", "Returns the length of the text");
        due.is("32", gems.type(32), 1);
        due.is("126", gems.type(126), 2);
        due.sentence("Promise 24", "LIMIT_REACHED if it has 60 characters");
        for (int length = 3; length <= 60; length++) {
            due.is("type", gems.type(59), length);
        }
        due.refused("the 61st", gems, () -> gems.type(59), Due.LIMIT);
        due.refused("the 61st, bad", gems, () -> gems.type(127), Due.INVALID);
        gems.clearText();
        due.is("room again", gems.type(59), 1);
    }

    private static void clearText() {
        due.sentence("Promise 25", "Returns the length it had");
        GemMemos gems = new GemMemos();
        due.is("empty at first", gems.clearText(), 0);
        gems.type(65);
        due.is("one", gems.clearText(), 1);
        due.is("none", gems.clearText(), 0);
        for (int i = 0; i < 61; i++) {
            gems.type(65);
        }
        due.is("the most", gems.clearText(), 60);
        due.sentence("Promise 25", "Empties the text");
        due.is("length", gems.count(12), 0);
        due.is("no fault", gems.fault(0), Due.NOT_FOUND);
        Due.typeAll(gems, "wait 12;back 0;");
        due.is("a whole command", gems.clearText(), 15);
        Due.typeAll(gems, "wait 12");
        due.is("nothing of the old text", gems.fault(1), 1);
        Due.retype(gems, "wait 1");
        due.is("nothing of the old text", gems.fault(1), 1);
        gems.type(';');
        due.is("one command alone", gems.play(), 1);
        due.is("no change", gems.count(11), 1);
    }

    private static void good(String text, int commands) {
        GemMemos gems = Markets.lent();
        Due.typeAll(gems, text);
        due.is("[" + text + "] position", gems.fault(0), Due.NOT_FOUND);
        due.is("[" + text + "] reason", gems.fault(1), Due.NOT_FOUND);
        due.is("[" + text + "] cause", gems.fault(2), Due.NOT_FOUND);
        due.is("[" + text + "] play", gems.play(), commands);
    }

    private static void bad(GemMemos gems, String text, int at, int reason, int cause) {
        Due.retype(gems, text);
        due.is("[" + text + "] position", gems.fault(0), at);
        due.is("[" + text + "] reason", gems.fault(1), reason);
        due.is("[" + text + "] cause", gems.fault(2), cause);
        due.refused("[" + text + "] play", gems, gems::play, Due.NOT_POSSIBLE);
    }

    private static void badForm(String text) {
        bad(Markets.lent(), text, 0, 1, Due.NOT_FOUND);
    }

    private static void forms() {
        due.sentence("Texts", "\"lend\" a dealer, a dealer, days, and a stone");
        good("lend 0 2 90 3;", 1);
        badForm("lend 0 2 90;");
        badForm("lend 0 2 90 3 3;");
        due.sentence("Texts", "\"back\" a stone, \"keep\" a stone");
        good("back 0;keep 2;", 2);
        badForm("back;");
        badForm("back 0 2;");
        badForm("keep;");
        badForm("keep 0 2;");
        due.sentence("Texts", "\"sell\" a stone and coins");
        good("sell 3 9999;sell 4 1;", 2);
        badForm("sell 3;");
        badForm("sell 3 5 5;");
        due.sentence("Texts", "\"grade\" a stone, a colour and a clarity");
        good("grade 0 9 7;grade 0 0 0;", 2);
        badForm("grade 0 9;");
        badForm("grade 0 9 7 7;");
        due.sentence("Texts", "\"rate\" a sieve, a colour, a clarity and coins");
        good("rate 4 9 7 9999;rate 0 0 0 1;", 2);
        badForm("rate 4 9 7;");
        badForm("rate 4 9 7 5 5;");
        due.sentence("Texts", "or \"wait\" days");
        good("wait 99;wait 1;", 2);
        badForm("wait;");
        badForm("wait 1 1;");
    }

    private static void numbers() {
        due.sentence("Texts", "numbers have one to four digits, 0 ahead allowed");
        good("wait 1;wait 01;wait 001;wait 0001;", 4);
        good("sell 3 1000;sell 0004 0009;", 2);
        good("lend 0000 0002 0090 0003;", 1);
        badForm("wait 00001;");
        badForm("wait 00000;");
        badForm("wait 10000;");
        badForm("sell 00003 5;");
        badForm("sell 3 00005;");
        badForm("grade 0 00000 7;");
        badForm("wait ;");
        badForm("sell  5;");
        badForm("wait -1;");
        badForm("wait +1;");
        badForm("wait 1.0;");
        badForm("wait 1a;");
        badForm("wait x;");
        badForm("wait /;");
        badForm("wait :;");
        bad(Markets.lent(), "wait 9999;", 0, 2, Due.INVALID);
        bad(Markets.lent(), "wait 0000;", 0, 2, Due.INVALID);
    }

    private static void otherForms() {
        due.sentence("Texts", "a text of at most 60 characters, initially empty");
        good("", 0);
        good("wait 1;wait 1;wait 1;wait 1;wait 1;wait 1;wait 01;wait 0001;", 8);
        badForm("lend 0000 0002 0090 0003                                    ");
        bad(Markets.lent(), "wait 1;wait 1;wait 1;wait 1;wait 1;wait 1;wait 01;wait 00010", 50, 1,
                Due.NOT_FOUND);
        due.sentence("Texts", "each followed by \";\"");
        badForm("wait 1");
        badForm("wait 1:");
        badForm("wait 1 ;");
        badForm("wait 1,wait 1;");
        badForm("wait 1wait 1;");
        badForm(";");
        badForm(";wait 1;");
        badForm(";;");
        due.sentence("Texts", "of words with one blank between two");
        badForm("wait  1;");
        badForm("wait1;");
        badForm("wait\t1;".replace('\t', '_'));
        badForm("sell 3  5;");
        badForm("sell 35;");
        badForm(" wait 1;");
        badForm(" ");
        due.sentence("Texts", "commands");
        badForm("Wait 1;");
        badForm("WAIT 1;");
        badForm("wai 1;");
        badForm("w");
        badForm("waits 1;");
        badForm("await 1;");
        badForm("wait");
        badForm("1;");
        badForm("pause 1;");
        badForm("unrate 4 5 5;");
        badForm("dealer;");
        badForm("stone 0 5 5 5;");
        badForm("set 0 5;");
        badForm("mark;");
        badForm("undo;");
    }

    private static void positions() {
        due.sentence("Texts", "the position, from 0, of the first character of the first command "
                + "that is not possible");
        bad(Markets.lent(), "back 3;", 0, 2, Due.NOT_POSSIBLE);
        bad(Markets.lent(), "back 0;back 3;", 7, 2, Due.NOT_POSSIBLE);
        bad(Markets.lent(), "back 3;back 4;", 0, 2, Due.NOT_POSSIBLE);
        bad(Markets.lent(), "back 3;x", 0, 2, Due.NOT_POSSIBLE);
        bad(Markets.lent(), "x;back 3;", 0, 1, Due.NOT_FOUND);
        bad(Markets.lent(), "back 0; back 1;", 7, 1, Due.NOT_FOUND);
        bad(Markets.lent(), "back 0;;", 7, 1, Due.NOT_FOUND);
        bad(Markets.lent(), "back 0; ", 7, 1, Due.NOT_FOUND);
        bad(Markets.lent(), "wait 1;wait 1;wait 1;wait 1;wait 1;wait 1;wait 01;wait 001;x", 59,
                1, Due.NOT_FOUND);
        bad(Markets.lent(), "rate 0 0 0 0001;sell 3 0001;sell 4 1;wait 0001;grade 0 9 7;;", 59, 1,
                Due.NOT_FOUND);
        due.sentence("Texts", "when those ahead of it are done");
        good("back 0;sell 0 5;", 2);
        bad(Markets.lent(), "keep 0;keep 0;", 7, 2, Due.NOT_POSSIBLE);
        good("wait 9;sell 0 5;", 2);
        bad(Markets.lent(), "wait 8;sell 0 5;", 7, 2, Due.NOT_POSSIBLE);
        good("grade 3 9 7;rate 4 9 7 5;lend 0 2 5 3;", 3);
        bad(Markets.lent(), "grade 3 9 7;lend 0 2 5 3;rate 4 9 7 5;", 12, 2, Due.NOT_POSSIBLE);
    }

    private static void causes() {
        due.sentence("Texts", "its reason is 1 if it is not of this form, its \";\" included");
        bad(Markets.lent(), "back 3", 0, 1, Due.NOT_FOUND);
        bad(Markets.lent(), "back 9999", 0, 1, Due.NOT_FOUND);
        bad(Markets.lent(), "wait 1;wait 0", 7, 1, Due.NOT_FOUND);
        due.sentence("Texts", "its cause is then the error code that the call returns for it");
        String[] invalid = {"lend 3 1 5 3;", "lend 0 3 5 3;", "lend 0 0 5 3;", "lend 0 1 0 3;",
            "lend 0 1 91 3;", "lend 0 1 5 5;", "lend 0 1 5 31;", "lend 0 1 5 32;",
            "lend 0 1 5 35;", "lend 0 1 5 64;", "lend 0 1 5 9999;", "back 5;", "back 9999;",
            "keep 5;", "sell 5 5;", "sell 3 0;", "sell 0 0;", "grade 5 0 0;", "grade 0 10 0;",
            "grade 0 0 8;", "rate 5 0 0 5;", "rate 0 10 0 5;", "rate 0 0 8 5;", "rate 0 0 0 0;",
            "wait 0;", "wait 100;"};
        for (String text : invalid) {
            bad(Markets.lent(), text, 0, 2, Due.INVALID);
        }
        String[] notPossible = {"lend 0 2 5 0;", "lend 0 2 5 4;", "lend 1 2 5 0;", "back 4;",
            "keep 4;", "sell 0 5;"};
        for (String text : notPossible) {
            bad(Markets.lent(), text, 0, 2, Due.NOT_POSSIBLE);
        }
        bad(Markets.lent(), "sell 3 5;sell 3 5;", 9, 2, Due.NOT_POSSIBLE);
        bad(Markets.lent(), "sell 3 5;grade 3 0 0;", 9, 2, Due.NOT_POSSIBLE);
        bad(Markets.lent(), "sell 3 5;lend 0 1 5 3;", 9, 2, Due.NOT_POSSIBLE);
    }

    private static void causesOfLimits() {
        due.sentence("Texts", "its cause is then the error code that the call returns for it");
        bad(Markets.tenMemos(), "lend 0 1 5 1;", 0, 2, Due.LIMIT);
        bad(Markets.tenMemos(), "lend 0 1 5 4;", 0, 2, Due.NOT_POSSIBLE);
        GemMemos full = new GemMemos();
        for (int i = 0; i < 24; i++) {
            full.rate(1, i % 10, i / 10, 5);
        }
        bad(full, "rate 1 0 0 9999;rate 0 0 0 5;", 16, 2, Due.LIMIT);
        bad(full, "rate 0 0 0 0;", 0, 2, Due.INVALID);
        GemMemos late = Markets.until(Markets.small(), 1950);
        bad(late, "wait 51;", 0, 2, Due.LIMIT);
        bad(late, "wait 50;wait 1;", 8, 2, Due.LIMIT);
        bad(late, "wait 100;", 0, 2, Due.INVALID);
        Due.retype(late, "wait 50;");
        due.is("to the last day", late.play(), 1);
        due.is("time", late.count(7), 2000);
    }

    private static void faultArguments() {
        due.sentence("Promise 26", "INVALID_ARGUMENT if what is out of range");
        GemMemos gems = Markets.lent();
        String[] texts = {"", "wait 1;", "x", "back 3;"};
        int[] whats = {Integer.MIN_VALUE, -2, -1, 3, 4, Integer.MAX_VALUE};
        for (String text : texts) {
            Due.retype(gems, text);
            for (int what : whats) {
                due.refused("fault(" + what + ")", gems, () -> gems.fault(what), Due.INVALID);
            }
        }
        due.sentence("Promise 26", "NOT_FOUND if the text has no fault (also if it is empty), for "
                + "2 if its reason is 1");
        due.is("before there is a text", new GemMemos().fault(1), Due.NOT_FOUND);
        Due.retype(gems, "back 3;");
        due.is("reason 2", gems.fault(2), Due.NOT_POSSIBLE);
        Due.retype(gems, "x");
        due.is("reason 1 behind it", gems.fault(2), Due.NOT_FOUND);
        Due.retype(gems, "wait 1;");
        for (int what = 0; what <= 2; what++) {
            due.is("no fault behind it", gems.fault(what), Due.NOT_FOUND);
        }
        gems.clearText();
        for (int what = 0; what <= 2; what++) {
            due.is("empty", gems.fault(what), Due.NOT_FOUND);
        }
        int[] was = Picture.ofAll(gems);
        Due.retype(gems, "keep 0;sell 3 5;wait 99;back 0;");
        due.is("fault", gems.fault(0), 24);
        gems.clearText();
        due.holds("nothing was done", java.util.Arrays.equals(was, Picture.ofAll(gems)));
    }

    private static void play() {
        due.sentence("Promise 27", "They are one change, also if there are none");
        GemMemos gems = new GemMemos();
        due.is("none", gems.play(), 0);
        due.is("one state", gems.count(11), 1);
        due.is("undo", gems.undo(), 0);
        Due.typeAll(gems, "wait 1;wait 2;");
        due.is("two", gems.play(), 2);
        due.is("one state", gems.count(11), 1);
        due.sentence("Promise 27", "which stays");
        due.is("length", gems.count(12), 14);
        due.is("again", gems.play(), 2);
        due.is("time", gems.count(7), 6);
        due.is("undo", gems.undo(), 1);
        due.is("time", gems.count(7), 3);
        due.is("undo", gems.undo(), 0);
        due.is("time", gems.count(7), 0);
        due.sentence("Promise 27", "NOT_POSSIBLE if it has a fault");
        GemMemos lent = Markets.lent();
        bad(lent, "wait 1;x", 7, 1, Due.NOT_FOUND);
        bad(lent, "keep 0;sell 3 5;back 0;", 16, 2, Due.NOT_POSSIBLE);
        Due.retype(lent, "keep 0;sell 3 5;");
        due.is("without it", lent.play(), 2);
        due.refused("it has one now", lent, lent::play, Due.NOT_POSSIBLE);
    }

    private static void playOfMuch() {
        due.sentence("Promise 27", "Returns how many there are in it");
        good("wait 1;wait 1;wait 1;wait 1;wait 1;wait 1;wait 1;wait 1;", 8);
        GemMemos gems = Markets.lent();
        for (int i = 0; i < 5; i++) {
            due.is("the history is full", gems.count(11), 4);
            gems.play();
        }
        due.is("five of none: the oldest are dropped", gems.undo(), 3);
        due.sentence("Promise 27", "Does all commands of the text");
        Due.typeAll(gems, "rate 4 5 5 300;lend 0 2 1 3;grade 3 5 4;wait 5;sell 3 7;");
        due.is("play", gems.play(), 5);
        due.is("sold", gems.stoneOf(3, 9), 7);
        due.is("kept as a late one, for 1200 and 120", gems.dealerOf(0, 0), Due.BASE + 1320);
        due.is("late so far", gems.count(10), 1);
        due.is("then sold for 7", gems.dealerOf(2, 0), Due.BASE - 1313);
        due.is("states", gems.count(11), 4);
    }
}
