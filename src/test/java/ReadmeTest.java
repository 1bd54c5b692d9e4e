import java.io.IOException;
import java.nio.file.Files;
import java.nio.file.Path;
import java.util.ArrayDeque;
import java.util.Deque;
import java.util.List;

/** The example of README.md: its lines are these calls, and the answers it tells are due. */
public final class ReadmeTest {
    private static final Due due = new Due();
    private static final Deque<String> lines = new ArrayDeque<>();

    public static void main(String[] args) throws IOException {
        List<String> page = Files.readAllLines(Path.of("README.md"));
        int start = page.indexOf("```java") + 1;
        lines.addAll(page.subList(start, start + page.subList(start, page.size()).indexOf("```")));
        example();
        due.is("lines left of the example", lines.size(), 0);
        text(page);
        due.end();
    }

    private static void example() {
        due.holds("begins", "GemMemos gems = new GemMemos();".equals(lines.poll()));
        GemMemos gems = new GemMemos();
        line("gems.dealer();", gems.dealer());
        line("gems.dealer();", gems.dealer());
        line("gems.stone(0, 150, 2, 3);", gems.stone(0, 150, 2, 3));
        line("gems.stone(0, 120, 2, 3);", gems.stone(0, 120, 2, 3));
        line("gems.rate(4, 4, 4, 1000);", gems.rate(4, 4, 4, 1000));
        line("gems.rateOf(4, 2, 3, 0);", gems.rateOf(4, 2, 3, 0));
        line("gems.stoneOf(0, 6);", gems.stoneOf(0, 6));
        line("gems.lend(0, 1, 30, 3);", gems.lend(0, 1, 30, 3));
        line("gems.pair(1, 2);", gems.pair(1, 2));
        line("gems.keep(0);", gems.keep(0));
        line("gems.dealerOf(1, 0);", gems.dealerOf(1, 0));
        line("gems.back(1);", gems.back(1));
        line("gems.back(1);", gems.back(1));
        line("gems.sell(1, 1300);", gems.sell(1, 1300));
        line("gems.count(11);", gems.count(11));
        line("gems.undo();", gems.undo());
        due.is("stone 1 is not sold", gems.stoneOf(1, 9), Due.NOT_FOUND);
    }

    /** The next line of the example is that call, with what it answers behind it. */
    private static void line(String call, int answer) {
        String line = lines.isEmpty() ? "" : lines.poll();
        String[] parts = line.split("\\s*// ", 2);
        due.holds("README.md has " + call + ", not " + line, parts[0].equals(call));
        String told = parts.length < 2 ? "" : parts[1].split(":", 2)[0];
        due.holds("README.md tells " + told + " for " + call + ", which answers " + answer,
                told.equals(String.valueOf(answer)));
    }

    private static void text(List<String> page) {
        String text = "rate 2 9 7 50;lend 0 1 3 0;wait 7;";
        due.holds("README.md has the text", page.contains(text));
        GemMemos gems = Due.withDealers(2);
        gems.stone(0, 30, 0, 0);
        Due.typeAll(gems, text);
        for (int what = 0; what < 3; what++) {
            due.is("fault", gems.fault(what), Due.NOT_FOUND);
        }
        due.is("play", gems.play(), 3);
    }
}
