import java.util.Random;

/** Long runs of calls by a fixed seed, each answer held against the one of Reference. */
public final class RandomRunsTest {
    private static final int RUNS = 3000;
    private static final int CALLS = 500;
    private static final int[] ODD = {-1, -2, 5, 6, 8, 10, 11, 16, 20, 21, 31, 32, 90, 91, 99, 100,
        101, 999, 1000, 9999, 10000, 99999, 100000, Integer.MIN_VALUE, Integer.MAX_VALUE,
        Integer.MIN_VALUE + 1, 1 << 20, (1 << 20) - 1, 1 << 30};
    private static final String[] CALL = {"dealer", "stone", "rate", "unrate", "lend", "back",
        "keep", "sell", "grade", "pause", "set", "stoneOf", "dealerOf", "memoOf", "rateOf",
        "count", "best", "pair", "grades", "mark", "restore", "undo", "type", "clearText",
        "fault", "play"};
    private static final int[] WEIGHT = {2, 6, 8, 2, 10, 4, 3, 2, 6, 4, 1, 20, 12, 10, 4, 12, 6,
        6, 3, 1, 1, 3, 0, 0, 3, 2};

    private final Random random;
    private final GemMemos gems = new GemMemos();
    private final Reference reference = new Reference();
    private final int run;
    private int wrong = 0;

    private RandomRunsTest(int run) {
        this.run = run;
        this.random = new Random(run);
    }

    public static void main(String[] args) {
        int bad = 0;
        for (int run = 0; run < RUNS && bad < 5; run++) {
            bad += new RandomRunsTest(run).go() ? 0 : 1;
        }
        System.out.println(RUNS + " runs, " + bad + " not as due");
        if (bad != 0) {
            System.exit(1);
        }
    }

    private boolean go() {
        int all = 0;
        for (int w : WEIGHT) {
            all += w;
        }
        for (int i = 0; i < 2 + run % 3; i++) {
            both("dealer");
        }
        for (int calls = 0; calls < CALLS && wrong == 0; calls++) {
            if (random.nextInt(40) == 0) {
                calls += typeText();
                continue;
            }
            int pick = random.nextInt(all);
            int c = 0;
            while (pick >= WEIGHT[c]) {
                pick -= WEIGHT[c];
                c++;
            }
            both(CALL[c], arguments(CALL[c]));
        }
        return wrong == 0;
    }

    private void both(String name, int... a) {
        int due = reference.call(name, a);
        int got = call(name, a);
        if (got != due) {
            wrong++;
            System.out.println("run " + run + ": " + name + java.util.Arrays.toString(a)
                    + " answered " + got + ", due is " + due);
        }
    }

    private int in(int from, int to) {
        if (random.nextInt(60) == 0) {
            return random.nextBoolean() ? from - 1 : to + 1;
        }
        return random.nextInt(150) == 0 ? ODD[random.nextInt(ODD.length)]
                : from + random.nextInt(to - from + 1);
    }

    private int dealer() {
        return in(0, Math.max(0, gems.count(0) - 1));
    }

    private int stone() {
        return in(0, Math.max(0, gems.count(1) - 1));
    }

    /** Few looks, so that there are pairs and worse entries. */
    private int colour() {
        return random.nextInt(3) == 0 ? in(0, 9) : in(2, 4);
    }

    private int clarity() {
        return random.nextInt(3) == 0 ? in(0, 7) : in(2, 4);
    }

    private int sieve() {
        return random.nextInt(2) == 0 ? in(0, 4) : 4 - run % 5;
    }

    private int weight() {
        int[][] bounds = {{100, 999}, {50, 99}, {25, 49}, {10, 24}, {1, 9}};
        int[] b = bounds[run % 5];
        return random.nextInt(3) == 0 ? in(1, 999) : in(b[0], Math.min(b[1], b[0] + 20));
    }

    private int set(int from) {
        int likely = gems.dealerOf(from, 1) & gems.dealerOf(from, 2);
        int r = random.nextInt(12);
        if (r == 0 || likely < 0) {
            return random.nextInt(1 << 20);
        }
        if (r == 1) {
            return in(0, 31);
        }
        int priced = 0;
        for (int s = 0; s < 20; s++) {
            priced |= gems.stoneOf(s, 6) >= 0 ? 1 << s : 0;
        }
        return likely & (r < 4 ? -1 : priced) & random.nextInt(1 << 20)
                & (r < 8 ? random.nextInt(1 << 20) : -1);
    }

    private int[] arguments(String name) {
        switch (name) {
            case "stone":
                return new int[] {dealer(), weight(), colour(), clarity()};
            case "rate":
                return new int[] {sieve(), colour(), clarity(),
                    random.nextInt(3) == 0 ? in(1, 9) * 100 : in(1, 9999)};
            case "unrate":
                return new int[] {sieve(), colour(), clarity()};
            case "lend":
                int from = dealer();
                return new int[] {from, dealer(), random.nextBoolean() ? in(1, 9) : in(1, 90),
                    set(from)};
            case "back":
            case "keep":
                return new int[] {stone()};
            case "sell":
                return new int[] {stone(), in(1, 9999)};
            case "grade":
                return new int[] {stone(), colour(), clarity()};
            case "pause":
                return new int[] {random.nextInt(4) == 0 ? in(1, 99) : in(1, 4)};
            case "set":
                int what = in(0, 1);
                return new int[] {what, in(0, what == 0 ? 30 : 100)};
            default:
                return questions(name);
        }
    }

    private int[] questions(String name) {
        switch (name) {
            case "stoneOf":
                return new int[] {stone(), in(0, 10)};
            case "dealerOf":
                return new int[] {dealer(), in(0, 5)};
            case "memoOf":
                return new int[] {in(0, Math.max(0, gems.count(4) - 1)), in(0, 7)};
            case "rateOf":
                return new int[] {sieve(), colour(), clarity(), in(0, 1)};
            case "count":
                return new int[] {in(0, 15)};
            case "best":
                return new int[] {dealer(), random.nextBoolean() ? in(0, 2000) : in(0, 99999)};
            case "pair":
                return new int[] {dealer(), in(0, 2)};
            case "grades":
                return new int[] {dealer()};
            case "fault":
                return new int[] {in(0, 2)};
            default:
                return new int[0];
        }
    }

    private int typeText() {
        if (random.nextInt(3) != 0) {
            both("clearText");
        }
        int typed = 0;
        int commands = random.nextInt(5);
        for (int i = 0; i < commands; i++) {
            String command = command();
            if (random.nextInt(12) == 0) {
                int at = random.nextInt(command.length());
                char other = "; 0a/:9w"  .charAt(random.nextInt(8));
                String rest = command.substring(at + random.nextInt(2));
                command = command.substring(0, at) + (random.nextBoolean() ? other : "") + rest;
            }
            for (int k = 0; k < command.length(); k++) {
                both("type", command.charAt(k));
                typed++;
            }
        }
        for (int what = 0; what < 3; what++) {
            both("fault", what);
        }
        if (random.nextBoolean()) {
            both("play");
        }
        return typed + 5;
    }

    private String command() {
        String[] names = {"lend", "back", "keep", "sell", "grade", "rate", "wait"};
        String name = names[random.nextInt(names.length)];
        int[] a = arguments(name.equals("wait") ? "pause" : name);
        if (name.equals("lend")) {
            a[3] = Integer.bitCount(a[3]) == 0 ? stone() : Integer.numberOfTrailingZeros(a[3]);
        }
        StringBuilder command = new StringBuilder(name);
        for (int value : a) {
            String digits = String.valueOf(value);
            command.append(' ').append(random.nextInt(10) == 0 ? "0" : "").append(digits);
        }
        return command.append(';').toString();
    }

    private int call(String name, int[] a) {
        switch (name) {
            case "dealer": return gems.dealer();
            case "stone": return gems.stone(a[0], a[1], a[2], a[3]);
            case "rate": return gems.rate(a[0], a[1], a[2], a[3]);
            case "unrate": return gems.unrate(a[0], a[1], a[2]);
            case "lend": return gems.lend(a[0], a[1], a[2], a[3]);
            case "back": return gems.back(a[0]);
            case "keep": return gems.keep(a[0]);
            case "sell": return gems.sell(a[0], a[1]);
            case "grade": return gems.grade(a[0], a[1], a[2]);
            case "pause": return gems.pause(a[0]);
            case "set": return gems.set(a[0], a[1]);
            case "stoneOf": return gems.stoneOf(a[0], a[1]);
            case "dealerOf": return gems.dealerOf(a[0], a[1]);
            case "memoOf": return gems.memoOf(a[0], a[1]);
            case "rateOf": return gems.rateOf(a[0], a[1], a[2], a[3]);
            case "count": return gems.count(a[0]);
            case "best": return gems.best(a[0], a[1]);
            case "pair": return gems.pair(a[0], a[1]);
            case "grades": return gems.grades(a[0]);
            case "mark": return gems.mark();
            case "restore": return gems.restore();
            case "undo": return gems.undo();
            case "type": return gems.type(a[0]);
            case "clearText": return gems.clearText();
            case "fault": return gems.fault(a[0]);
            case "play": return gems.play();
            default: throw new IllegalStateException(name);
        }
    }
}
