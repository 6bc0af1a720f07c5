import java.io.IOException;
import java.nio.file.Files;
import java.nio.file.Path;
import java.util.ArrayList;
import java.util.List;

/** The sentences of the document, each with a test of its own. */
final class Sentences {
    interface Test {
        void run(Check check);
    }

    private static final Path DOCUMENT = Path.of("../shared/DOC.md");

    private final Check check;
    private final String text;
    private final boolean[] tested;

    Sentences(Check check) throws IOException {
        this.check = check;
        this.text = promisedText(Files.readAllLines(DOCUMENT));
        this.tested = new boolean[text.length()];
    }

    /** The running text: the face has FaceTest, and what is not promised needs no test. */
    private static String promisedText(List<String> lines) {
        List<String> kept = new ArrayList<>();
        boolean isPromised = false;
        for (String line : lines) {
            if (line.startsWith("#")) {
                isPromised = !line.equals("## The public face") && !line.equals("## Not promised");
            } else if (isPromised && !line.startsWith("```")) {
                kept.add(line.replaceFirst("^`[^`]*\\)[^`]*`: ", ""));
            }
        }
        return String.join(" ", kept).replaceAll("\\s+", " ");
    }

    void test(String quote, Test test) {
        check.at('"' + quote + '"');
        int start = text.indexOf(quote);
        check.due("stands once in the document", start >= 0 && start == text.lastIndexOf(quote), true);
        for (int i = start; i >= 0 && i < start + quote.length(); i++) {
            tested[i] = true;
        }
        int before = check.seen();
        String thrown = Check.thrownBy(() -> test.run(check));
        check.dueText("its test", thrown, "nothing thrown");
        check.due("its test looks at something", check.seen() > before + 1, true);
    }

    void noneIsLeft() {
        StringBuilder left = new StringBuilder();
        for (int i = 0; i < tested.length; i++) {
            boolean isWord = Character.isLetterOrDigit(text.charAt(i));
            left.append(!tested[i] && isWord ? text.charAt(i) : ' ');
        }
        check.at("the document");
        check.dueText("words without a test", left.toString().trim().replaceAll("\\s+", " "), "");
    }
}
