import java.io.IOException;
import java.nio.file.Files;
import java.nio.file.Path;
import java.util.ArrayList;
import java.util.List;
import java.util.function.Supplier;

/** Each line of the example in README.md is called here, and its answer stands there behind it. */
public final class ReadmeTest {
    private static final Expect EXPECT = new Expect("ReadmeTest");

    private final List<String> lines;
    private int read;

    private ReadmeTest(List<String> lines) {
        this.lines = lines;
    }

    public static void main(String[] args) throws IOException {
        ReadmeTest test = new ReadmeTest(example());
        PostChain x = new PostChain();
        test.machine(x);
        test.run(x);
        test.tray(x);
        test.text(x);
        EXPECT.same("lines of the example", test.read, test.lines.size());
        EXPECT.end();
    }

    /** Those lines of the README that call x. */
    private static List<String> example() throws IOException {
        List<String> lines = new ArrayList<>();
        for (String line : Files.readAllLines(Path.of("README.md"))) {
            if (line.startsWith("x.")) {
                lines.add(line);
            }
        }
        return lines;
    }

    private void machine(PostChain x) {
        says("x.rule(0, 0, 1, true, 1);", () -> x.rule(0, 0, 1, true, 1));
        says("x.rule(1, 0, 1, false, 0);", () -> x.rule(1, 0, 1, false, 0));
        says("x.rule(0, 1, 0, true, 4);", () -> x.rule(0, 1, 0, true, 4));
        says("x.input(0, 0);", () -> x.input(0, 0));
    }

    private void run(PostChain x) {
        says("x.steps();", () -> x.steps());
        says("x.halts();", () -> x.halts());
        says("x.run(3, -1);", () -> x.run(3, -1));
        says("x.run(3, 1);", () -> x.run(3, 1));
        says("x.dominoes();", () -> x.dominoes());
        says("x.domino(20, true, -1);", () -> x.domino(20, true, -1));
        says("x.domino(20, false, 0);", () -> x.domino(20, false, 0));
        says("x.way(-1);", () -> x.way(-1));
        says("x.way(11);", () -> x.way(11));
    }

    private void tray(PostChain x) {
        says("x.layWay();", () -> x.layWay());
        says("x.tray();", () -> x.tray());
        says("x.back();", () -> x.back());
        says("x.search(400);", () -> x.search(400));
        says("x.looked();", () -> x.looked());
        says("x.trees();", () -> x.trees());
    }

    private void text(PostChain x) {
        says("x.clear();", () -> {
            x.clear();
            return "";
        });
        says("x.lay(2);", () -> x.lay(2));
        says("x.type('0');", () -> x.type('0'));
        says("x.trees();", () -> x.trees());
        says("x.drop(0, 1);", () -> x.drop(0, 1));
        says("x.looked();", () -> x.looked());
    }

    /** The next line has this call, and between // and : its answer. */
    private void says(String call, Supplier<Object> body) {
        String[] line = (read < lines.size() ? lines.get(read) : "").split("//");
        read++;
        EXPECT.same("line " + read + " of the example", line[0].trim(), call);
        String written = line.length > 1 ? line[1].split(":")[0].trim() : "";
        EXPECT.same(call, Ask.answer(body), written);
    }
}
