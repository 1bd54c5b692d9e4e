import java.util.ArrayList;
import java.util.List;

/** Takes down what can be told; these calls count too, but the class does not count its calls. */
final class Picture {
    private Picture() {
    }

    /** All that can be told without a change. */
    static int[] ofAll(GemMemos gems) {
        int[] state = of(gems);
        int[] all = java.util.Arrays.copyOf(state, state.length + 6);
        for (int i = 0; i < 3; i++) {
            all[state.length + i] = gems.count(11 + i);
            all[state.length + 3 + i] = gems.fault(i);
        }
        return all;
    }

    /** All that can be told of the state, but for history, text and snapshot. */
    static int[] of(GemMemos gems) {
        List<Integer> told = new ArrayList<>();
        for (int what = 0; what < 16; what++) {
            told.add(what >= 11 && what <= 13 ? 0 : gems.count(what));
        }
        for (int stone = 0; stone < 20; stone++) {
            for (int what = 0; what <= 10; what++) {
                told.add(gems.stoneOf(stone, what));
            }
        }
        for (int dealer = 0; dealer < 6; dealer++) {
            for (int what = 0; what <= 5; what++) {
                told.add(gems.dealerOf(dealer, what));
            }
        }
        for (int memo = 0; memo < 10; memo++) {
            for (int what = 0; what <= 7; what++) {
                told.add(gems.memoOf(memo, what));
            }
        }
        for (int grade = 0; grade < 400; grade++) {
            told.add(gems.rateOf(grade / 80, grade / 8 % 10, grade % 8, 1));
        }
        return told.stream().mapToInt(Integer::intValue).toArray();
    }
}
