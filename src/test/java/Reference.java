import java.util.ArrayDeque;
import java.util.ArrayList;
import java.util.Deque;
import java.util.HashSet;
import java.util.List;
import java.util.Map;
import java.util.Set;
import java.util.TreeMap;
import java.util.regex.Matcher;
import java.util.regex.Pattern;

/**
 * The document once more, written from its words with the Java library and in no hurry,
 * to be held against the class. It shares no code and no way of holding things with it.
 */
final class Reference {
    static final class Fault extends RuntimeException {
        private static final long serialVersionUID = 1L;
        final int code;

        Fault(int code) {
            super(null, null, false, false);
            this.code = code;
        }
    }

    static final class Memo implements Cloneable {
        int from;
        int to;
        int last;
        List<Integer> all = new ArrayList<>();
        Map<Integer, Integer> out = new TreeMap<>();
        int kept;

        Memo copy() {
            Memo copy = new Memo();
            copy.from = from;
            copy.to = to;
            copy.last = last;
            copy.all.addAll(all);
            copy.out.putAll(out);
            copy.kept = kept;
            return copy;
        }
    }

    /** A stone: a record of what it is; who has it is told by owner and the memos. */
    record Stone(int weight, int colour, int clarity, int owner, int sold, int kept) {
        int sieve() {
            return weight < 10 ? 0 : weight < 25 ? 1 : weight < 50 ? 2 : weight < 100 ? 3 : 4;
        }

        String grade() {
            return sieve() + "/" + colour + "/" + clarity;
        }
    }

    static final class State {
        List<Long> balances = new ArrayList<>();
        List<Stone> stones = new ArrayList<>();
        List<Memo> memos = new ArrayList<>();
        Map<List<Integer>, Integer> prices = new java.util.LinkedHashMap<>();
        int time;
        int grace = 3;
        int extra = 10;
        int late;

        State copy() {
            State copy = new State();
            copy.balances.addAll(balances);
            copy.stones.addAll(stones);
            memos.forEach(memo -> copy.memos.add(memo.copy()));
            copy.prices.putAll(prices);
            copy.time = time;
            copy.grace = grace;
            copy.extra = extra;
            copy.late = late;
            return copy;
        }
    }

    private State state = new State();
    private State snapshot;
    private final Deque<State> history = new ArrayDeque<>();
    private final StringBuilder text = new StringBuilder();

    private static void need(boolean truth, int code) {
        if (!truth) {
            throw new Fault(code);
        }
    }

    private static void in(int value, int from, int to) {
        need(value >= from && value <= to, Due.INVALID);
    }

    private Stone stoneAt(int stone) {
        in(stone, 0, state.stones.size() - 1);
        return state.stones.get(stone);
    }

    private void dealerAt(int dealer) {
        in(dealer, 0, state.balances.size() - 1);
    }

    private int memoWith(int stone) {
        for (int m = 0; m < state.memos.size(); m++) {
            if (state.memos.get(m).out.containsKey(stone)) {
                return m;
            }
        }
        return -1;
    }

    private int holder(int stone) {
        int memo = memoWith(stone);
        return memo >= 0 ? state.memos.get(memo).to : state.stones.get(stone).owner;
    }

    private Integer rateFor(int sieve, int colour, int clarity) {
        Integer own = state.prices.get(List.of(sieve, colour, clarity));
        if (own != null) {
            return own;
        }
        return state.prices.entrySet().stream()
                .filter(e -> e.getKey().get(0) == sieve && e.getKey().get(1) >= colour
                        && e.getKey().get(2) >= clarity)
                .map(Map.Entry::getValue).max(Integer::compare).orElse(null);
    }

    private Integer price(int stone) {
        Stone s = state.stones.get(stone);
        Integer rate = rateFor(s.sieve(), s.colour, s.clarity);
        return rate == null ? null : (int) Math.floor((long) s.weight * rate / 100.0 + 1e-9);
    }

    private void pay(int dealer, long sum) {
        state.balances.set(dealer, state.balances.get(dealer) + sum);
    }

    private void keepFor(int stone, int sum) {
        Memo memo = state.memos.get(memoWith(stone));
        Stone s = state.stones.get(stone);
        pay(memo.to, -sum);
        pay(s.owner, sum);
        memo.kept++;
        memo.out.remove(stone);
        state.stones.set(stone,
                new Stone(s.weight, s.colour, s.clarity, memo.to, s.sold, s.kept + 1));
    }

    private int act(String name, int[] a) {
        switch (name) {
            case "dealer":
                need(state.balances.size() < 6, Due.LIMIT);
                state.balances.add(0L);
                return state.balances.size() - 1;
            case "stone":
                dealerAt(a[0]);
                in(a[1], 1, 999);
                in(a[2], 0, 9);
                in(a[3], 0, 7);
                need(state.stones.size() < 20, Due.LIMIT);
                state.stones.add(new Stone(a[1], a[2], a[3], a[0], 0, 0));
                return state.stones.size() - 1;
            case "rate":
                in(a[0], 0, 4);
                in(a[1], 0, 9);
                in(a[2], 0, 7);
                in(a[3], 1, 9999);
                List<Integer> key = List.of(a[0], a[1], a[2]);
                need(state.prices.containsKey(key) || state.prices.size() < 24, Due.LIMIT);
                Integer was = state.prices.put(key, a[3]);
                return was == null ? 0 : was;
            case "unrate":
                in(a[0], 0, 4);
                in(a[1], 0, 9);
                in(a[2], 0, 7);
                Integer gone = state.prices.remove(List.of(a[0], a[1], a[2]));
                need(gone != null, Due.NOT_POSSIBLE);
                return gone;
            case "lend":
                return lend(a);
            case "back":
                stoneAt(a[0]);
                need(memoWith(a[0]) >= 0, Due.NOT_POSSIBLE);
                Memo memo = state.memos.get(memoWith(a[0]));
                memo.out.remove(a[0]);
                return memo.out.size();
            case "keep":
                stoneAt(a[0]);
                need(memoWith(a[0]) >= 0, Due.NOT_POSSIBLE);
                int sum = state.memos.get(memoWith(a[0])).out.get(a[0]);
                keepFor(a[0], sum);
                return sum;
            case "sell":
                Stone s = stoneAt(a[0]);
                in(a[1], 1, 9999);
                need(memoWith(a[0]) < 0 && s.owner >= 0, Due.NOT_POSSIBLE);
                pay(s.owner, a[1]);
                state.stones.set(a[0],
                        new Stone(s.weight, s.colour, s.clarity, -1, a[1], s.kept));
                return (int) (state.balances.get(s.owner) + 100000000);
            case "grade":
                return grade(a);
            case "pause":
                return pause(a[0]);
            case "set":
                in(a[0], 0, 1);
                in(a[1], 0, a[0] == 0 ? 30 : 100);
                int old = a[0] == 0 ? state.grace : state.extra;
                state.grace = a[0] == 0 ? a[1] : state.grace;
                state.extra = a[0] == 1 ? a[1] : state.extra;
                return old;
            default:
                throw new IllegalStateException(name);
        }
    }

    private int lend(int[] a) {
        dealerAt(a[0]);
        dealerAt(a[1]);
        need(a[0] != a[1], Due.INVALID);
        in(a[2], 1, 90);
        List<Integer> set = new ArrayList<>();
        for (int bit = 0; bit < 32; bit++) {
            if ((a[3] & 1 << bit) != 0) {
                in(bit, 0, state.stones.size() - 1);
                set.add(bit);
            }
        }
        need(!set.isEmpty(), Due.INVALID);
        for (int stone : set) {
            need(state.stones.get(stone).owner == a[0] && holder(stone) == a[0]
                    && price(stone) != null, Due.NOT_POSSIBLE);
        }
        need(state.memos.size() < 10, Due.LIMIT);
        Memo memo = new Memo();
        memo.from = a[0];
        memo.to = a[1];
        memo.last = state.time + a[2];
        memo.all.addAll(set);
        set.forEach(stone -> memo.out.put(stone, price(stone)));
        state.memos.add(memo);
        return state.memos.size() - 1;
    }

    private int grade(int[] a) {
        Stone s = stoneAt(a[0]);
        in(a[1], 0, 9);
        in(a[2], 0, 7);
        need(s.owner >= 0, Due.NOT_POSSIBLE);
        state.stones.set(a[0], new Stone(s.weight, a[1], a[2], s.owner, s.sold, s.kept));
        Integer price = price(a[0]);
        if (memoWith(a[0]) >= 0 && price != null) {
            state.memos.get(memoWith(a[0])).out.put(a[0], price);
        }
        return s.colour * 10 + s.clarity;
    }

    private int pause(int days) {
        in(days, 1, 99);
        need(state.time + days <= 2000, Due.LIMIT);
        int late = 0;
        for (int i = 0; i < days; i++) {
            state.time++;
            for (Memo memo : state.memos) {
                if (memo.last + state.grace < state.time) {
                    for (Map.Entry<Integer, Integer> e : new ArrayList<>(memo.out.entrySet())) {
                        keepFor(e.getKey(), e.getValue() + e.getValue() * state.extra / 100);
                        late++;
                    }
                }
            }
        }
        state.late += late;
        return late;
    }

    private void record(State before) {
        history.addLast(before);
        if (history.size() == 5) {
            history.removeFirst();
        }
    }

    /** What does all of the text on the state comes to: position, reason, cause, commands. */
    private int[] runText() {
        int at = 0;
        int commands = 0;
        String words = "lend( [0-9]{1,4}){4}|(back|keep|wait)( [0-9]{1,4})|sell( [0-9]{1,4}){2}"
                + "|grade( [0-9]{1,4}){3}|rate( [0-9]{1,4}){4}";
        Pattern form = Pattern.compile("(?<c>" + words + ");");
        while (at < text.length()) {
            Matcher matcher = form.matcher(text).region(at, text.length());
            if (!matcher.lookingAt()) {
                return new int[] {at, 1, Due.NOT_FOUND, 0};
            }
            String[] parts = matcher.group("c").split(" ");
            int[] a = new int[parts.length - 1];
            for (int i = 0; i < a.length; i++) {
                a[i] = Integer.parseInt(parts[i + 1]);
            }
            String name = parts[0].equals("wait") ? "pause" : parts[0];
            try {
                if (name.equals("lend")) {
                    stoneAt(a[3]);
                    a[3] = 1 << a[3];
                }
                act(name, a);
            } catch (Fault fault) {
                return new int[] {at, 2, fault.code, 0};
            }
            at = matcher.end();
            commands++;
        }
        return new int[] {-1, 0, 0, commands};
    }

    /** Answers a call, by its name. */
    int call(String name, int... a) {
        State before = state.copy();
        try {
            switch (name) {
                case "restore":
                    need(snapshot != null, Due.NOT_POSSIBLE);
                    state = snapshot.copy();
                    record(before);
                    return state.time;
                case "play":
                    int[] run = runText();
                    need(run[0] < 0, Due.NOT_POSSIBLE);
                    record(before);
                    return run[3];
                case "dealer", "stone", "rate", "unrate", "lend", "back", "keep", "sell", "grade",
                        "pause", "set":
                    int answer = act(name, a);
                    record(before);
                    return answer;
                default:
                    return ask(name, a);
            }
        } catch (Fault fault) {
            state = before;
            return fault.code;
        }
    }

    private int ask(String name, int[] a) {
        switch (name) {
            case "mark":
                snapshot = state.copy();
                return state.time;
            case "undo":
                need(!history.isEmpty(), Due.NOT_POSSIBLE);
                state = history.removeLast();
                return history.size();
            case "type":
                in(a[0], 32, 126);
                need(text.length() < 60, Due.LIMIT);
                text.append((char) a[0]);
                return text.length();
            case "clearText":
                int length = text.length();
                text.setLength(0);
                return length;
            case "fault":
                in(a[0], 0, 2);
                State kept = state.copy();
                int[] run = runText();
                state = kept;
                need(run[0] >= 0, Due.NOT_FOUND);
                return run[a[0]];
            case "stoneOf":
                return stoneOf(a[0], a[1]);
            case "dealerOf":
                return dealerOf(a[0], a[1]);
            case "memoOf":
                return memoOf(a[0], a[1]);
            case "rateOf":
                in(a[0], 0, 4);
                in(a[1], 0, 9);
                in(a[2], 0, 7);
                in(a[3], 0, 1);
                Integer rate = a[3] == 1 ? state.prices.get(List.of(a[0], a[1], a[2]))
                        : rateFor(a[0], a[1], a[2]);
                need(rate != null, Due.NOT_FOUND);
                return rate;
            case "count":
                return count(a[0]);
            case "best":
                return best(a[0], a[1]);
            case "pair":
                return pair(a[0], a[1]);
            case "grades":
                dealerAt(a[0]);
                Set<String> grades = new HashSet<>();
                held(a[0]).forEach(stone -> grades.add(state.stones.get(stone).grade()));
                return grades.size();
            default:
                throw new IllegalStateException(name);
        }
    }

    private static int orNone(Integer value) {
        need(value != null, Due.NOT_FOUND);
        return value;
    }

    private int stoneOf(int stone, int what) {
        Stone s = stoneAt(stone);
        in(what, 0, 10);
        int m = memoWith(stone);
        boolean sold = s.owner < 0;
        List<Integer> told = new ArrayList<>(List.of(s.weight, s.colour, s.clarity, s.sieve()));
        told.add(sold ? null : s.owner);
        told.add(sold ? null : Integer.valueOf(holder(stone)));
        told.add(price(stone));
        told.add(m < 0 ? null : m);
        told.add(m < 0 ? null : state.memos.get(m).out.get(stone));
        told.add(sold ? s.sold : null);
        told.add(s.kept);
        return orNone(told.get(what));
    }

    private List<Integer> held(int dealer) {
        List<Integer> held = new ArrayList<>();
        for (int i = 0; i < state.stones.size(); i++) {
            if (state.stones.get(i).owner >= 0 && holder(i) == dealer) {
                held.add(i);
            }
        }
        return held;
    }

    private int dealerOf(int dealer, int what) {
        dealerAt(dealer);
        in(what, 0, 5);
        int owned = 0;
        int worth = 0;
        for (int i = 0; i < state.stones.size(); i++) {
            if (state.stones.get(i).owner == dealer) {
                owned += 1 << i;
                worth += price(i) == null ? 0 : price(i);
            }
        }
        int to = 0;
        int from = 0;
        for (Memo memo : state.memos) {
            int sum = memo.out.values().stream().mapToInt(Integer::intValue).sum();
            to += memo.to == dealer ? sum : 0;
            from += memo.from == dealer ? sum : 0;
        }
        int balance = (int) (state.balances.get(dealer) + 100000000);
        int[] told = {balance, owned, bits(held(dealer)), worth, to, from};
        return told[what];
    }

    private static int bits(Iterable<Integer> numbers) {
        int bits = 0;
        for (int number : numbers) {
            bits |= 1 << number;
        }
        return bits;
    }

    private int memoOf(int number, int what) {
        in(number, 0, state.memos.size() - 1);
        in(what, 0, 7);
        Memo memo = state.memos.get(number);
        int[] told = {memo.from, memo.to, memo.last, bits(memo.out.keySet()), bits(memo.all),
            memo.kept, memo.out.isEmpty() ? 0 : 1,
            memo.last > state.time ? memo.last - state.time : 0};
        return told[what];
    }

    private int count(int what) {
        in(what, 0, 15);
        int sold = (int) state.stones.stream().filter(s -> s.owner < 0).count();
        int out = state.memos.stream().mapToInt(m -> m.out.size()).sum();
        int open = (int) state.memos.stream().filter(m -> !m.out.isEmpty()).count();
        long all = state.balances.stream().mapToLong(Long::longValue).sum() + 100000000;
        int sums = state.stones.stream().mapToInt(Stone::sold).sum();
        int[] told = {state.balances.size(), state.stones.size(), sold, out, state.memos.size(),
            open, state.prices.size(), state.time, (int) all, sums, state.late, history.size(),
            text.length(), snapshot == null ? 0 : 1, state.grace, state.extra};
        return told[what];
    }

    private int best(int dealer, int coins) {
        dealerAt(dealer);
        in(coins, 0, 99999);
        Integer best = held(dealer).stream().filter(i -> price(i) != null && price(i) <= coins)
                .min((i, j) -> {
                    int byPrice = Integer.compare(price(j), price(i));
                    int byWeight = Integer.compare(state.stones.get(j).weight,
                            state.stones.get(i).weight);
                    return byPrice != 0 ? byPrice : byWeight != 0 ? byWeight : i - j;
                }).orElse(null);
        return orNone(best);
    }

    private int pair(int dealer, int what) {
        dealerAt(dealer);
        in(what, 0, 2);
        List<int[]> pairs = new ArrayList<>();
        List<Integer> held = held(dealer);
        for (int i : held) {
            for (int j : held) {
                Stone s = state.stones.get(i);
                Stone t = state.stones.get(j);
                if (i < j && s.grade().equals(t.grade())) {
                    pairs.add(new int[] {i, j, Math.abs(s.weight - t.weight)});
                }
            }
        }
        need(!pairs.isEmpty(), Due.NOT_FOUND);
        pairs.sort((p, q) -> p[2] != q[2] ? p[2] - q[2] : p[0] != q[0] ? p[0] - q[0]
                : p[1] - q[1]);
        return pairs.get(0)[what];
    }
}
