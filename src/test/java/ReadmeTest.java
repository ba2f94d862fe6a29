import java.io.IOException;
import java.nio.file.Files;
import java.nio.file.Path;
import java.util.List;

/** The example of README.md, line by line: each call stands there with the answer that it gets. */
public final class ReadmeTest {
    private static final Checks CHECKS = new Checks("ReadmeTest");

    private final List<String> lines;
    private int at;

    private ReadmeTest(List<String> example) {
        lines = example;
    }

    public static void main(String[] args) throws IOException {
        new ReadmeTest(example()).play();
        CHECKS.end();
    }

    private static List<String> example() throws IOException {
        List<String> all = Files.readAllLines(Path.of("README.md"));
        int start = all.indexOf("```java") + 1;
        int end = start + all.subList(start, all.size()).indexOf("```");
        return all.subList(start, end).stream().filter(line -> !line.isBlank()).toList();
    }

    private void play() {
        ThreeFiles store = new ThreeFiles(8);
        line("ThreeFiles store = new ThreeFiles(8);", "up to 8 pieces in each file");
        line("store.feed('h');", store.feed('h'));
        line("store.feed('i');", store.feed('i'));
        int row = store.row(7);
        line("int row = store.row(7);", row);
        line("store.find(row, 1);", letter(store.find(row, 1)));
        line("store.find(row, 2);", store.find(row, 2));
        line("store.rows(7);", store.rows(7));
        line("store.lose(1);", store.lose(1));
        line("store.find(row, 1);", letter(store.find(row, 1)));
        line("store.row(7);", store.row(7));
        line("store.reopen();", store.reopen());
        line("store.same(1);", store.same(1));
        line("store.mended();", store.mended());
        line("store.poke(0, 4, 255);", store.poke(0, 4, 255));
        line("store.scrub(3);", store.scrub(3));
        line("store.mended();", store.mended());
        line("store.poke(0, 4, 255);", store.poke(0, 4, 255));
        line("store.poke(2, 4, 255);", store.poke(2, 4, 255));
        line("store.reopen();", store.reopen());
        line("store.badAt();", store.badAt());
        line("store.drop(7);", store.drop(7));
        line("store.rows(7);", store.rows(7));
        CHECKS.due("lines of the example", at, lines.size());
    }

    private static String letter(int b) {
        return "'" + (char) b + "'";
    }

    private void line(String call, boolean answer) {
        line(call, String.valueOf(answer));
    }

    private void line(String call, int answer) {
        line(call, answer == ThreeFiles.NONE ? "NONE" : String.valueOf(answer));
    }

    /** The next line of the example is this call, and the comment behind it begins with its answer. */
    private void line(String call, String answer) {
        String told = at < lines.size() ? lines.get(at) : "";
        String[] parts = told.split("//", 2);
        CHECKS.due("line " + at + ", the call", parts[0].strip(), call);
        String comment = parts.length == 2 ? parts[1].strip() : "";
        CHECKS.due("line " + at + ", " + call, answer, comment.split("[:,]", 2)[0]);
        at++;
    }
}
