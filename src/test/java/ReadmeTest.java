import java.io.IOException;
import java.lang.reflect.Method;
import java.lang.reflect.Modifier;
import java.nio.file.DirectoryStream;
import java.nio.file.Files;
import java.nio.file.Path;
import java.util.ArrayList;
import java.util.List;

/** README.md tells what is so: its example, the calls and the tests. */
public final class ReadmeTest {
    private interface Answer {
        Object get();
    }

    private static final Check CHECK = new Check("ReadmeTest");
    private static final List<String> EXAMPLE = new ArrayList<>();
    private static int next = 0;

    public static void main(String[] args) throws IOException {
        List<String> lines = Files.readAllLines(Path.of("README.md"));
        readExample(lines);
        runExample();
        CHECK.due("lines of the example that are tested", next, EXAMPLE.size());
        String text = String.join(" ", lines);
        namesEveryCall(text);
        namesEveryTest(text);
        CHECK.end();
    }

    private static void readExample(List<String> lines) {
        int start = lines.indexOf("```java") + 1;
        for (int i = start; i < lines.size() && !lines.get(i).equals("```"); i++) {
            EXAMPLE.add(lines.get(i));
        }
    }

    private static String[] nextLine() {
        String line = next < EXAMPLE.size() ? EXAMPLE.get(next) : "";
        next++;
        String[] parts = line.split("//", 2);
        return new String[] {parts[0].trim(), parts.length < 2 ? "" : parts[1].trim()};
    }

    private static void told(String code) {
        CHECK.dueText("line " + next + " of the example", nextLine()[0], code);
    }

    private static void asked(String code, Answer answer) {
        String[] line = nextLine();
        CHECK.dueText("line " + next + " of the example", line[0], code);
        CHECK.dueText("what stands beside " + code, line[1].split(":", 2)[0], answer.get().toString());
    }

    private static void runExample() {
        TunnelWatch watch = new TunnelWatch(10, 20, 1000);
        told("TunnelWatch watch = new TunnelWatch(10, 20, 1000);");
        asked("watch.fan(0, 30);", () -> watch.fan(0, 30));
        watch.plan(0, 3, 50, -1, 1, 0);
        told("watch.plan(0, 3, 50, -1, 1, 0);");
        watch.wish(0, 1, 1);
        told("watch.wish(0, 1, 1);");
        asked("watch.ticks(12);", () -> watch.ticks(12));
        asked("watch.device(0, 2, 0);", () -> watch.device(0, 2, 0));
        asked("watch.load();", () -> watch.load());
        asked("watch.sense(0, 3, 60);", () -> watch.sense(0, 3, 60));
        asked("watch.ticks(1);", () -> watch.ticks(1));
        asked("watch.tube(0, 0);", () -> watch.tube(0, 0));
        asked("watch.device(0, 0, 0);", () -> watch.device(0, 0, 0));
        asked("watch.confirm(0);", () -> watch.confirm(0));
        asked("watch.ticks(1);", () -> watch.ticks(1));
        asked("watch.tube(0, 0);", () -> watch.tube(0, 0));
        asked("watch.tube(0, 1);", () -> watch.tube(0, 1));
        asked("watch.device(0, 0, 1);", () -> watch.device(0, 0, 1));
        asked("watch.device(0, 1, 0);", () -> watch.device(0, 1, 0));
        asked("watch.device(0, 2, 0);", () -> watch.device(0, 2, 0));
        asked("watch.device(0, 2, 5);", () -> watch.device(0, 2, 5));
        asked("watch.ticks(20);", () -> watch.ticks(20));
        asked("watch.device(0, 2, 0);", () -> watch.device(0, 2, 0));
        asked("watch.sense(0, 3, 0);", () -> watch.sense(0, 3, 0));
        asked("watch.reset(0);", () -> watch.reset(0));
        asked("watch.ticks(1);", () -> watch.ticks(1));
        asked("watch.device(0, 1, 0);", () -> watch.device(0, 1, 0));
        asked("watch.broken();", () -> watch.broken());
    }

    private static void namesEveryCall(String text) {
        for (Method call : TunnelWatch.class.getDeclaredMethods()) {
            if (Modifier.isPublic(call.getModifiers())) {
                String row = "| `" + call.getName() + "(";
                CHECK.due(call.getName() + " has a row", text.contains(row), true);
            }
        }
    }

    private static void namesEveryTest(String text) throws IOException {
        try (DirectoryStream<Path> tests = Files.newDirectoryStream(Path.of("src/test/java"), "*Test.java")) {
            for (Path test : tests) {
                String name = test.getFileName().toString().replace(".java", "");
                CHECK.due(name + " is named", text.contains("- `" + name + "`"), true);
            }
        }
    }
}
