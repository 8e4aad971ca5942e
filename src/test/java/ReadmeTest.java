import java.io.IOException;
import java.nio.file.Files;
import java.nio.file.Path;
import java.util.ArrayList;
import java.util.List;

/** The example of README.md: its calls are those that are made here, and each answer that it tells is the right one. */
public final class ReadmeTest {
    private final Check check = new Check();
    private final List<String> lines = new ArrayList<>();
    private int next = 0;

    public static void main(String[] args) throws IOException {
        ReadmeTest test = new ReadmeTest();
        test.takeExample(Files.readAllLines(Path.of("README.md")));
        test.run();
        test.check.end();
    }

    private void takeExample(List<String> readme) {
        int from = readme.indexOf("```java");
        for (int i = from + 1; from >= 0 && i < readme.size() && !readme.get(i).equals("```"); i++) {
            lines.add(readme.get(i));
        }
    }

    private void run() {
        told("BranchFilters x = new BranchFilters();");
        BranchFilters x = new BranchFilters();
        told("x.filter(0, 2, 1);");
        x.filter(0, 2, 1);
        told("x.begin(0x1000, true);");
        x.begin(0x1000, true);
        answer("x.feed(5, 0xE8100000, 0, 0, 0);", x.feed(5, 0xE8100000, 0, 0, 0));
        answer("x.finish();", x.finish());
        answer("x.output(1);", x.output(1));
        answer("x.output(5);", x.output(5));
        answer("x.word(1);", x.word(1));
        answer("x.count(0, 4);", x.count(0, 4));
        told("x.begin(0x1000, false);");
        x.begin(0x1000, false);
        answer("x.feed(5, 0xE8151000, 0, 0, 0);", x.feed(5, 0xE8151000, 0, 0, 0));
        answer("x.finish();", x.finish());
        answer("x.word(1);", x.word(1));
        check.same("lines of the example", lines.size(), next);
    }

    /** The next line of the example is this call: the words behind it. */
    private String told(String call) {
        String[] parts = (next < lines.size() ? lines.get(next) : "").split("//", 2);
        next++;
        check.same("line " + next + " of the example", parts[0].strip(), call);
        return parts.length < 2 ? "" : parts[1].strip();
    }

    /** The next line is this call, and its first word the answer. */
    private void answer(String call, int got) {
        String first = told(call).split("[ :,]", 2)[0];
        String number = first.endsWith("h") ? Integer.toHexString(got).toUpperCase() + "h" : Integer.toString(got);
        check.same("README tells: " + call, first, got == BranchFilters.NONE ? "NONE" : number);
    }
}
