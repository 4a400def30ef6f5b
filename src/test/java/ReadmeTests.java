import java.io.IOException;
import java.nio.file.Files;
import java.nio.file.Path;
import java.util.ArrayList;
import java.util.List;

/** README.md's example: its lines are those that are called here, and each answer it tells is the one that comes. */
final class ReadmeTests {
    private static final String BEGIN = "LinCluster lin = new LinCluster();";

    private final List<String> called = new ArrayList<>();

    private ReadmeTests() {
    }

    static void all(Checks c) {
        c.test("README.md: the example's calls and what they answer", () -> {
            c.equal("the lines", new ReadmeTests().example(), told());
        });
    }

    private String example() {
        LinCluster lin = new LinCluster();
        lin.frame(2, 2, 1, true);
        called("lin.frame(2, 2, 1, true);");
        lin.listen(3, 2, true);
        called("lin.listen(3, 2, true);");
        lin.status(1, 2, 1, 7);
        called("lin.status(1, 2, 1, 7);");
        answered("lin.space(1, 2);", lin.space(1, 2));
        answered("lin.write(2, 0, 74);", lin.write(2, 0, 74));
        answered("lin.slot(2, 90);", lin.slot(2, 90));
        answered("lin.checks(2);", lin.checks(2));
        lin.disturb(43, 0);
        called("lin.disturb(43, 0);");
        answered("lin.run(90);", lin.run(90));
        answered("lin.told(1, 1);", lin.told(1, 1));
        answered("lin.told(3, 5);", lin.told(3, 5));
        answered("lin.run(90);", lin.run(90));
        answered("lin.taken(3, 2);", lin.taken(3, 2));
        answered("lin.byteAt(3, 2, 0);", lin.byteAt(3, 2, 0));
        answered("lin.byteAt(3, 2, 1);", lin.byteAt(3, 2, 1));
        answered("lin.told(1, 1);", lin.told(1, 1));
        return called.toString();
    }

    private void called(String call) {
        called.add(call);
    }

    private void answered(String call, int answer) {
        called.add(call + " " + answer);
    }

    /** The example's calls as README.md has them, each with the number that its comment begins with. */
    private static String told() {
        List<String> calls = new ArrayList<>();
        boolean within = false;
        for (String line : readme()) {
            if (within && line.startsWith("```")) {
                break;
            }
            if (within) {
                String[] parts = line.split(" *// *", 2);
                String answer = parts.length < 2 ? "" : parts[1].replaceFirst("^(-?\\d+): .*$", " $1");
                calls.add(parts[0] + (answer.startsWith(" ") ? answer : ""));
            }
            within |= line.equals(BEGIN);
        }
        return calls.toString();
    }

    private static List<String> readme() {
        try {
            return Files.readAllLines(Path.of("README.md"));
        } catch (IOException e) {
            throw new IllegalStateException("README.md is not to be read where the tests run", e);
        }
    }
}
