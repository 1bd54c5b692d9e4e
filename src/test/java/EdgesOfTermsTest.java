import java.util.Arrays;

/** Each sentence of "What it is" and "Terms" that names an edge: stones to settings. */
public final class EdgesOfTermsTest {
    private static final Due due = new Due();

    public static void main(String[] args) {
        calls();
        numbers();
        stones();
        prices();
        rates();
        priceOfStones();
        dealers();
        memos();
        keptAndGivenBack();
        regrades();
        sales();
        days();
        lateOnes();
        settings();
        due.end();
    }

    private static void calls() {
        due.sentence("What it is", "An object is used for at most 512 calls");
        GemMemos gems = new GemMemos();
        for (int call = 1; call < 508; call += 4) {
            due.is("call " + call, gems.rate(call / 4 % 5, 0, 0, call), call < 20 ? 0 : call - 20);
            due.is("the next", gems.count(11), Math.min(4, call / 4 + 1));
            due.is("the next", gems.undo(), Math.min(3, call / 4));
            due.is("the next", gems.rate(call / 4 % 5, 0, 0, call), call < 20 ? 0 : call - 20);
        }
        due.is("call 509", gems.undo(), 3);
        due.is("call 510", gems.rate(1, 0, 0, 7), 485);
        due.is("call 511", gems.count(6), 5);
        due.is("call 512", gems.rateOf(1, 0, 0, 1), 7);
    }

    private static void numbers() {
        due.sentence("Terms", "divisions are rounded down");
        GemMemos gems = Due.withDealers(2);
        int[][] dues = {{1, 99, 0}, {1, 100, 1}, {3, 33, 0}, {3, 34, 1}, {199, 1, 1}, {201, 1, 2},
            {999, 9999, 99890}};
        for (int i = 0; i < dues.length; i++) {
            gems.stone(0, dues[i][0], 0, 0);
            gems.rate(gems.stoneOf(i, 3), 0, 0, dues[i][1]);
            due.is("price of " + Arrays.toString(dues[i]), gems.stoneOf(i, 6), dues[i][2]);
        }
        due.sentence("Terms", "time in days, 0 at first");
        due.is("count(7)", new GemMemos().count(7), 0);
        due.sentence("Terms", "bit k is for number k");
        gems = Markets.twentyStones(100);
        gems.rate(4, 5, 5, 100);
        due.is("all", gems.dealerOf(0, 1), (1 << 20) - 1);
        gems.lend(0, 1, 1, 1 << 19 | 1);
        due.is("0 and 19", gems.dealerOf(1, 2), 524289);
        due.is("1 to 18", gems.dealerOf(0, 2), 524286);
    }

    private static void stones() {
        due.sentence("Terms", "There are at most 20 stones, numbered from 0");
        GemMemos gems = Due.withDealers(1);
        for (int i = 0; i < 20; i++) {
            due.is("stone", gems.stone(0, 100 + i, 0, 0), i);
        }
        due.is("the 21st", gems.stone(0, 100, 0, 0), Due.LIMIT);
        due.is("the last one", gems.stoneOf(19, 0), 119);
        due.is("no more", gems.stoneOf(20, 0), Due.INVALID);
        due.sentence("Terms", "a stone has a weight (1 to 999), a colour (0, the best one, to 9) "
                + "and a clarity (0, the best one, to 7)");
        gems = Due.withDealers(1);
        due.is("least", gems.stone(0, 1, 0, 0), 0);
        due.is("greatest", gems.stone(0, 999, 9, 7), 1);
        due.is("weight", gems.stoneOf(1, 0), 999);
        due.is("colour", gems.stoneOf(1, 1), 9);
        due.is("clarity", gems.stoneOf(1, 2), 7);
        due.is("no weight", gems.stone(0, 0, 0, 0), Due.INVALID);
        due.is("too heavy", gems.stone(0, 1000, 0, 0), Due.INVALID);
        due.is("too bad a colour", gems.stone(0, 1, 10, 0), Due.INVALID);
        due.is("too bad a clarity", gems.stone(0, 1, 0, 8), Due.INVALID);
        due.sentence("Terms", "Its sieve is 0 if its weight is below 10, 1 below 25, 2 below 50, "
                + "3 below 100, and otherwise 4");
        int[] first = {1, 10, 25, 50, 100, 1000};
        for (int sieve = 0; sieve < 5; sieve++) {
            gems = Due.withDealers(1);
            gems.stone(0, first[sieve], 0, 0);
            gems.stone(0, first[sieve + 1] - 1, 0, 0);
            due.is("from " + first[sieve], gems.stoneOf(0, 3), sieve);
            due.is("below " + first[sieve + 1], gems.stoneOf(1, 3), sieve);
        }
    }

    private static void prices() {
        due.sentence("Terms", "The price list has at most 24 entries");
        GemMemos gems = new GemMemos();
        for (int i = 0; i < 24; i++) {
            due.is("rate", gems.rate(i % 5, i % 10, i % 8, i + 1), 0);
        }
        due.is("the 25th", gems.rate(0, 9, 0, 1), Due.LIMIT);
        for (int i = 0; i < 24; i++) {
            due.is("rateOf", gems.rateOf(i % 5, i % 10, i % 8, 1), i + 1);
        }
        due.sentence("Terms", "coins for a carat (1 to 9999)");
        gems = new GemMemos();
        due.is("least", gems.rate(0, 0, 0, 1), 0);
        due.is("greatest", gems.rate(0, 0, 0, 9999), 1);
        due.is("too few", gems.rate(0, 0, 0, 0), Due.INVALID);
        due.is("too many", gems.rate(0, 0, 0, 10000), Due.INVALID);
        due.sentence("Terms", "each for a grade (a sieve, a colour and a clarity)");
        gems = new GemMemos();
        gems.rate(1, 2, 3, 10);
        due.is("another sieve", gems.rate(2, 2, 3, 20), 0);
        due.is("another colour", gems.rate(1, 3, 3, 30), 0);
        due.is("another clarity", gems.rate(1, 2, 2, 40), 0);
        due.is("count(6)", gems.count(6), 4);
        due.is("its own", gems.rateOf(1, 2, 3, 1), 10);
    }

    private static void rates() {
        due.sentence("Terms", "The rate of a grade is that of its entry");
        GemMemos gems = new GemMemos();
        gems.rate(2, 4, 4, 9999);
        gems.rate(2, 3, 3, 1);
        due.is("less than a worse one", gems.rateOf(2, 3, 3, 0), 1);
        gems.rate(2, 9, 7, 5000);
        due.is("the worst of all", gems.rateOf(2, 9, 7, 0), 5000);
        due.sentence("Terms", "if there is none, the greatest one among the entries of the same "
                + "sieve whose colour and clarity are both at least as great (bad) as its own");
        due.is("not the nearest", gems.rateOf(2, 2, 2, 0), 9999);
        due.is("the best grade", gems.rateOf(2, 0, 0, 0), 9999);
        due.is("as great a colour", gems.rateOf(2, 4, 3, 0), 9999);
        due.is("as great a clarity", gems.rateOf(2, 3, 4, 0), 9999);
        due.is("colour by 1 greater", gems.rateOf(2, 5, 4, 0), 5000);
        due.is("clarity by 1 greater", gems.rateOf(2, 4, 5, 0), 5000);
        due.is("only the last", gems.rateOf(2, 9, 0, 0), 5000);
        due.is("only the last", gems.rateOf(2, 0, 7, 0), 5000);
        due.is("sieve below", gems.rateOf(1, 0, 0, 0), Due.NOT_FOUND);
        due.is("sieve above", gems.rateOf(3, 0, 0, 0), Due.NOT_FOUND);
        gems.rate(2, 1, 5, 8000);
        due.is("a second one as great", gems.rateOf(2, 1, 3, 0), 9999);
        gems.rate(2, 4, 4, 2);
        due.is("now another one", gems.rateOf(2, 0, 0, 0), 8000);
        due.sentence("Terms", "there may be none");
        due.is("an empty list", new GemMemos().rateOf(0, 0, 0, 0), Due.NOT_FOUND);
        gems.unrate(2, 9, 7);
        due.is("colour better alone", gems.rateOf(2, 4, 5, 0), Due.NOT_FOUND);
        due.is("clarity better alone", gems.rateOf(2, 5, 4, 0), Due.NOT_FOUND);
        due.is("the worst of all", gems.rateOf(2, 9, 7, 0), Due.NOT_FOUND);
    }

    private static void priceOfStones() {
        due.sentence("Terms", "The price of a stone is its weight times the rate of its grade, "
                + "divided by 100 (which may be 0)");
        GemMemos gems = Due.withDealers(2);
        gems.stone(0, 9, 3, 3);
        due.is("no rate, no price", gems.stoneOf(0, 6), Due.NOT_FOUND);
        due.is("so it can't be lent", gems.lend(0, 1, 5, 1), Due.NOT_POSSIBLE);
        gems.rate(0, 3, 3, 11);
        due.is("a price of 0", gems.stoneOf(0, 6), 0);
        due.is("which is found", gems.best(0, 0), 0);
        due.is("which can be lent", gems.lend(0, 1, 5, 1), 0);
        due.is("and asked", gems.stoneOf(0, 8), 0);
        gems.rate(0, 3, 3, 12);
        due.is("by 1 more", gems.stoneOf(0, 6), 1);
        due.is("asked as it was", gems.keep(0), 0);
        due.is("nothing is paid", gems.dealerOf(1, 0), Due.BASE);
        due.is("it is kept", gems.stoneOf(0, 4), 1);
        gems.unrate(0, 3, 3);
        gems.rate(0, 9, 7, 1200);
        due.is("by a worse entry", gems.stoneOf(0, 6), 108);
    }

    private static void dealers() {
        due.sentence("Terms", "There are at most 6 dealers, numbered from 0, each with a balance "
                + "(0 at first)");
        GemMemos gems = new GemMemos();
        for (int i = 0; i < 6; i++) {
            due.is("dealer", gems.dealer(), i);
            due.is("balance", gems.dealerOf(i, 0), Due.BASE);
        }
        due.is("the 7th", gems.dealer(), Due.LIMIT);
        due.is("no more", gems.dealerOf(6, 0), Due.INVALID);
        due.sentence("Terms", "A stone has an owner, and is with a holder, until it is sold");
        due.is("stone", gems.stone(5, 100, 0, 0), 0);
        due.is("owner", gems.stoneOf(0, 4), 5);
        due.is("holder", gems.stoneOf(0, 5), 5);
        gems.sell(0, 1);
        due.is("no owner", gems.stoneOf(0, 4), Due.NOT_FOUND);
        due.is("no holder", gems.stoneOf(0, 5), Due.NOT_FOUND);
    }

    private static void memos() {
        due.sentence("Terms", "There are at most 10 memos, numbered from 0 (closed ones count)");
        GemMemos gems = Markets.tenMemos();
        due.is("none open", gems.count(5), 0);
        due.is("the 11th", gems.lend(0, 1, 5, 1), Due.LIMIT);
        due.is("the last one", gems.memoOf(9, 0), 0);
        due.is("no more", gems.memoOf(10, 0), Due.INVALID);
        due.is("days go by then", gems.pause(99), 0);
        GemMemos ten = Markets.twentyStones(100);
        ten.rate(4, 5, 5, 100);
        for (int i = 0; i < 10; i++) {
            ten.lend(0, 1, 1 + i, 3 << 2 * i);
        }
        due.is("ten are open", ten.count(5), 10);
        due.is("late by the first nine", ten.pause(13), 18);
        due.is("late by the last one", ten.pause(1), 2);
        due.sentence("Terms", "its price on the day of the memo");
        gems = Markets.lent();
        gems.rate(4, 5, 5, 9999);
        due.is("dearer since", gems.stoneOf(0, 8), 100);
        gems.unrate(4, 5, 5);
        due.is("no price since", gems.stoneOf(0, 6), Due.NOT_FOUND);
        due.is("asked yet", gems.stoneOf(0, 8), 100);
        gems.pause(1);
        due.is("asked the next day", gems.keep(0), 100);
        due.sentence("Terms", "A memo is open as long as stones are out by it");
        gems = Markets.lent();
        due.is("three out", gems.memoOf(0, 6), 1);
        gems.back(0);
        gems.keep(1);
        due.is("one out", gems.memoOf(0, 6), 1);
        due.is("one open", gems.count(5), 1);
        gems.keep(2);
        due.is("none out", gems.memoOf(0, 6), 0);
        due.is("none open", gems.count(5), 0);
        gems = Markets.lent();
        gems.pause(8);
        due.is("not late yet", gems.memoOf(0, 6), 1);
        gems.pause(1);
        due.is("kept as late ones", gems.memoOf(0, 6), 0);
    }

    private static void keptAndGivenBack() {
        due.sentence("Terms", "When a stone is given back, its owner holds it again");
        GemMemos gems = Markets.lent();
        gems.back(1);
        due.is("holder", gems.stoneOf(1, 5), 0);
        due.is("can be lent again", gems.lend(0, 2, 5, 2), 1);
        due.is("is with another", gems.stoneOf(1, 5), 2);
        due.sentence("Terms", "which can fall below 0");
        gems = Markets.lent();
        gems.keep(0);
        due.is("below 0", gems.dealerOf(1, 0), Due.BASE - 100);
        gems.keep(1);
        due.is("further", gems.dealerOf(1, 0), Due.BASE - 300);
        due.sentence("Terms", "to that of the owner, and the one who keeps it is its owner then");
        due.is("the owner's", gems.dealerOf(0, 0), Due.BASE + 300);
        due.is("owner", gems.stoneOf(0, 4), 1);
        due.is("can lend it", gems.lend(1, 0, 5, 1), 1);
        gems.keep(0);
        due.is("back to the first", gems.stoneOf(0, 4), 0);
        due.is("paid back", gems.dealerOf(1, 0), Due.BASE - 200);
    }

    private static void regrades() {
        due.sentence("Terms", "When a stone that is out is regraded, its asked price becomes its "
                + "price of now by the new grade");
        GemMemos gems = Markets.lent();
        gems.rate(4, 4, 4, 9999);
        gems.grade(0, 4, 5);
        due.is("by a worse entry", gems.stoneOf(0, 8), 100);
        gems.grade(0, 4, 4);
        due.is("greater", gems.stoneOf(0, 8), 9999);
        due.is("the others' stay", gems.stoneOf(1, 8), 200);
        gems.rate(4, 5, 5, 7);
        gems.grade(0, 5, 5);
        due.is("of now", gems.stoneOf(0, 8), 7);
        gems.rate(4, 5, 5, 8);
        gems.grade(0, 5, 5);
        due.is("by the same grade", gems.stoneOf(0, 8), 8);
        gems = Due.withDealers(2);
        gems.stone(0, 9, 3, 3);
        gems.rate(0, 3, 3, 1200);
        gems.rate(0, 8, 3, 11);
        gems.lend(0, 1, 5, 1);
        due.is("asked", gems.stoneOf(0, 8), 108);
        gems.grade(0, 8, 3);
        due.is("0 is a price too", gems.stoneOf(0, 8), 0);
        due.sentence("Terms", "if there is no rate for that, the asked price stays");
        gems.grade(0, 3, 3);
        gems.grade(0, 9, 3);
        due.is("no rate", gems.stoneOf(0, 6), Due.NOT_FOUND);
        due.is("it stays", gems.stoneOf(0, 8), 108);
        gems.rate(0, 9, 3, 500);
        due.is("a rate since does nothing", gems.keep(0), 108);
    }

    private static void sales() {
        due.sentence("Terms", "the sum that is told is added to the balance of its owner");
        GemMemos gems = Markets.small();
        gems.sell(4, 9999);
        due.is("the owner's", gems.dealerOf(1, 0), Due.BASE + 9999);
        due.is("another's", gems.dealerOf(0, 0), Due.BASE);
        due.sentence("Terms", "it is with nobody then");
        gems.stone(1, 510, 5, 5);
        gems.stone(1, 505, 5, 5);
        gems.sell(6, 1);
        due.is("owned", gems.dealerOf(1, 1), 32);
        due.is("held", gems.dealerOf(1, 2), 32);
        due.is("worth", gems.dealerOf(1, 3), 510);
        due.is("best", gems.best(1, 505), Due.NOT_FOUND);
        due.is("pair", gems.pair(1, 2), Due.NOT_FOUND);
        gems.sell(5, 1);
        due.is("grades", gems.grades(1), 0);
        due.is("all sold: worth", gems.dealerOf(1, 3), 0);
    }

    private static void days() {
        due.sentence("A day", "whose last day is less than the time by more than setting 0");
        int[] graces = {0, 3, 30};
        for (int grace : graces) {
            GemMemos gems = Markets.small();
            gems.set(0, grace);
            gems.lend(0, 1, 1, 3);
            due.is("no less by " + grace, gems.pause(1 + grace), 0);
            due.is("by " + grace + " and 1", gems.pause(1), 2);
            due.is("once alone", gems.pause(99), 0);
            gems = Markets.small();
            gems.set(0, grace);
            gems.lend(0, 1, 90, 1);
            due.is("within the days", gems.pause(90), 0);
            due.is("over them by " + grace, grace == 0 ? 0 : gems.pause(grace), 0);
            due.is("one more", gems.pause(1), 1);
        }
        GemMemos gems = Markets.lent();
        gems.pause(8);
        gems.set(0, 0);
        due.is("less grace does nothing by itself", gems.count(3), 3);
        due.is("the next day does", gems.pause(1), 3);
    }

    private static void lateOnes() {
        due.sentence("A day", "by numbers of memos, then of stones, each stone that is out");
        GemMemos gems = Markets.small();
        gems.lend(0, 1, 1, 1);
        gems.lend(1, 0, 2, 16);
        gems.lend(0, 2, 3, 14);
        due.is("all in one pause", gems.pause(99), 5);
        due.is("none is left", gems.count(3), 0);
        due.is("0", gems.dealerOf(0, 0), Due.BASE + 110 - 550 + 220 + 330 + 440);
        due.is("1", gems.dealerOf(1, 0), Due.BASE - 110 + 550);
        due.sentence("A day", "for its asked price plus setting 1 hundredths of it");
        int[][] dues = {{9, 10, 9}, {10, 10, 11}, {19, 10, 20}, {99, 1, 99}, {100, 1, 101},
            {7, 0, 7}, {7, 100, 14}, {9999, 99, 19898}};
        for (int[] d : dues) {
            gems = Markets.small();
            gems.rate(4, 5, 5, d[0]);
            gems.set(1, d[1]);
            gems.lend(0, 1, 1, 1);
            gems.pause(9);
            due.is("asked, hundredths " + d[0] + ", " + d[1], gems.dealerOf(1, 0), Due.BASE - d[2]);
            due.is("to the owner", gems.dealerOf(0, 0), Due.BASE + d[2]);
        }
        gems = Due.withDealers(2);
        gems.stone(0, 999, 0, 0);
        gems.rate(4, 0, 0, 9999);
        gems.set(1, 100);
        gems.lend(0, 1, 1, 1);
        gems.pause(9);
        due.is("the dearest stone, twice", gems.dealerOf(1, 0), Due.BASE - 199780);
    }

    private static void settings() {
        due.sentence("Settings", "0 days of grace (0 to 30; 3)");
        GemMemos gems = new GemMemos();
        due.is("first value", gems.count(14), 3);
        due.is("least", gems.set(0, 0), 3);
        due.is("greatest", gems.set(0, 30), 0);
        due.is("too great", gems.set(0, 31), Due.INVALID);
        due.is("too small", gems.set(0, -1), Due.INVALID);
        due.is("then", gems.count(14), 30);
        due.is("the other", gems.count(15), 10);
        due.sentence("Settings", "1 hundredths that are added for late ones (0 to 100; 10)");
        gems = new GemMemos();
        due.is("first value", gems.count(15), 10);
        due.is("least", gems.set(1, 0), 10);
        due.is("greatest", gems.set(1, 100), 0);
        due.is("too great", gems.set(1, 101), Due.INVALID);
        due.is("too small", gems.set(1, -1), Due.INVALID);
        due.is("then", gems.count(15), 100);
        due.is("the other", gems.count(14), 3);
    }
}
