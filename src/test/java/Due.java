import java.util.Arrays;
import java.util.function.IntSupplier;

/** Counts the answers of one test that are not the ones that are due. */
final class Due {
    static final int INVALID = -10000001;
    static final int NOT_POSSIBLE = -10000002;
    static final int LIMIT = -10000003;
    static final int NOT_FOUND = -10000004;
    static final int BASE = 100000000;

    private int wrong = 0;
    private int checked = 0;
    private String sentence = "";

    /** Tells which sentence of the document the next answers are held against. */
    void sentence(String where, String words) {
        sentence = where + ", \"" + words + "\": ";
    }

    void is(String call, long got, long want) {
        checked++;
        if (got != want) {
            wrong++;
            System.out.println(sentence + call + " answered " + got + ", due is " + want);
        }
    }

    /** A call that is due to return an error, and to change nothing. */
    void refused(String call, GemMemos gems, IntSupplier answer, int error) {
        int[] was = Picture.ofAll(gems);
        is(call, answer.getAsInt(), error);
        holds(call + " changes nothing", Arrays.equals(was, Picture.ofAll(gems)));
    }

    /** Numbers that no stone, dealer or memo has when there are so many. */
    static int[] noneOf(int many) {
        return new int[] {Integer.MIN_VALUE, -many - 1, -1, many, many + 1, many + 32, 32, 64,
            1 << 20, Integer.MAX_VALUE};
    }

    void holds(String what, boolean truth) {
        is(what, truth ? 1 : 0, 1);
    }

    /** Ends the test: with exit code 1 if an answer was wrong. */
    void end() {
        System.out.println(checked + " answers, " + wrong + " not as due");
        if (wrong != 0) {
            System.exit(1);
        }
    }

    /** Types a text, sign by sign, behind what is there. */
    static void typeAll(GemMemos gems, String text) {
        for (int i = 0; i < text.length(); i++) {
            gems.type(text.charAt(i));
        }
    }

    /** Puts a text in place of what is there. */
    static void retype(GemMemos gems, String text) {
        gems.clearText();
        typeAll(gems, text);
    }

    /** Makes a market with so many dealers, and no more calls that are changes. */
    static GemMemos withDealers(int dealers) {
        GemMemos gems = new GemMemos();
        for (int i = 0; i < dealers; i++) {
            gems.dealer();
        }
        return gems;
    }
}
