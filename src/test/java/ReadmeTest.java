import java.io.IOException;
import java.nio.file.Files;
import java.nio.file.Path;
import java.util.ArrayList;
import java.util.List;

/** What README.md shows is what the class does, and it names every call of the face. */
public final class ReadmeTest {
    private static final String[] CALLS = {
        "part(output, power)", "plain(part, n)", "call(part, label, constant, two)",
        "upper(part, label, constant, two)", "near(part, label, constant)", "fill(part, power, n)",
        "label()", "put(label, piece, at)", "base(b)", "align(output, power)", "root(part, on)",
        "sweep()", "back()", "pass()", "shrink()", "settle()", "reset()", "holds()", "lacks()",
        "piece(piece, what)", "aim(piece)", "value(label)", "span(part, what)", "output(output, what)",
        "saved()"};

    public static void main(String[] args) throws IOException {
        Due due = new Due();
        example(due);
        List<String> readme = Files.readAllLines(Path.of("README.md"));
        List<String> shown = between(readme, "```java", "```");
        List<String> run = between(Files.readAllLines(Path.of("src/test/java/ReadmeTest.java")),
                "// As in README.md:", "// That was it.");
        due.is("README.md shows an example", shown.size() > 5, true);
        due.is("README.md's example is the one that is run here", shown.equals(run), true);
        String text = String.join("\n", readme);
        for (String call : CALLS) {
            due.is("README.md tells of " + call, text.contains("`" + call + "`"), true);
        }
        due.is("README.md tells how to run the tests", text.contains("bash .ci/run"), true);
        namesEveryTest(due, text);
        due.end();
    }

    private static void example(Due due) {
        // As in README.md:
        ShrinkLayout x = new ShrinkLayout();
        int code = x.part(0, 2);                    // a part of output 0, at a multiple of 4
        int data = x.part(2, 3);                    // one of output 2, at a multiple of 8
        int spare = x.part(0, 0);                   // one that nothing will lead to
        int there = x.label();
        int word = x.label();
        int call = x.call(code, there, 0, true);    // 8 bytes at first
        int load = x.upper(code, word, 0, true);    // 4 bytes at first
        int body = x.plain(code, 100);
        int words = x.plain(data, 64);
        x.plain(spare, 5000);
        x.put(there, body, 0);                      // the label is where the plain bytes begin
        x.put(word, words, 8);                      // and this one 8 bytes into the data
        x.base(65536);
        x.root(code, true);
        int gone = x.sweep();                       // 1: the spare part; the code leads to the data
        int fixed = x.settle();                     // 0: all that became shorter holds
        int size = x.piece(call, 2);                // 2: the label is near
        int saved = x.saved();                      // 10: 6 of the call, 4 of the load, which is by GP
        int end = x.output(0, 1);                   // 65638: where the code ends
        int at = x.value(word);                     // 65648: where the loaded word is
        // That was it.
        due.is("README's gone", gone, 1);
        due.is("README's fixed", fixed, 0);
        due.is("README's size", size, 2);
        due.is("README's load", x.piece(load, 2), 0);
        due.is("README's saved", saved, 10);
        due.is("README's end", end, 65638);
        due.is("README's at", at, 65648);
    }

    private static List<String> between(List<String> lines, String from, String to) {
        List<String> found = new ArrayList<>();
        boolean inside = false;
        for (String line : lines) {
            if (inside && line.strip().equals(to)) {
                break;
            }
            if (inside) {
                found.add(line.strip());
            }
            inside = inside || line.strip().equals(from);
        }
        return found;
    }

    private static void namesEveryTest(Due due, String text) throws IOException {
        try (var files = Files.list(Path.of("src/test/java"))) {
            for (Path file : files.sorted().toList()) {
                String name = file.getFileName().toString().replace(".java", "");
                due.is("README.md tells of " + name, text.contains(name), true);
            }
        }
    }
}
