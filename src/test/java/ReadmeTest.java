import java.io.IOException;
import java.nio.file.Files;
import java.nio.file.Path;

/** The example in README.md: each line of it stands there, and answers what is told there. */
public final class ReadmeTest {
    private final Checks c = new Checks();
    private final String readme;

    private ReadmeTest(String readme) {
        this.readme = readme;
    }

    public static void main(String[] args) throws IOException {
        ReadmeTest test = new ReadmeTest(Files.readString(Path.of("README.md")));
        test.example();
        test.everyMethod();
        test.c.end();
    }

    private void example() {
        CallKeepers calls = new CallKeepers();
        told("calls.piece(7, 1, true, 2, 100);   // TAKEN_IN", calls.piece(7, 1, true, 2, 100), CallKeepers.TAKEN_IN);
        told("calls.piece(7, 0, false, 2, 50);   // WHOLE", calls.piece(7, 0, false, 2, 50), CallKeepers.WHOLE);
        told("calls.piece(8, 0, false, 2, 30);   // TAKEN_IN", calls.piece(8, 0, false, 2, 30), CallKeepers.TAKEN_IN);
        told("calls.tick(5);                     // 1", calls.tick(5), 1);
        told("calls.count(2);                    // 2", calls.count(2), 2);
        told("calls.kept(0, 3);                  // 150", calls.kept(0, 3), 150);
        told("calls.kept(1, 5);                  // 1", calls.kept(1, 5), 1);
        told("calls.bound(1, 2, 1);              // 32", calls.bound(1, 2, 1), 32);
        told("calls.take(0);                     // 7", calls.take(0), 7);
        told("calls.piece(100, 0, false, 2, 1);  // BAD", calls.piece(100, 0, false, 2, 1), CallKeepers.BAD);
    }

    private void told(String line, int got, int want) {
        c.due("README.md has: " + line, readme.contains("\n" + line) ? 1 : 0, 1);
        c.due(line, got, want);
    }

    private void everyMethod() {
        String[] names = {"keeper", "home", "set", "piece", "tick", "waits", "remembered", "kept", "take", "shape",
            "step", "bound", "count", "trace"};
        for (String name : names) {
            c.due("README.md tells of " + name, readme.contains("| `" + name + "(") ? 1 : 0, 1);
        }
    }
}
