import java.io.IOException;
import java.nio.file.Files;
import java.nio.file.Path;
import java.util.ArrayList;
import java.util.List;

/** The example in README.md: each of its calls gives the answer that is written behind it. */
public final class ReadmeTest {
    private static final String FIRST_LINE = "StampSheets x = new StampSheets();";

    /** Each call of the example as it is written there, and what the program answers to it. */
    private final List<String> answered = new ArrayList<>();

    public static void main(String[] args) throws IOException {
        ReadmeTest test = new ReadmeTest();
        test.runTheExample();
        Check.due("the example of README.md", writtenInReadme(), test.answered);
        Check.end();
    }

    private void runTheExample() {
        StampSheets x = new StampSheets();
        told("x.roll(400, 3)", x.roll(400, 3));
        told("x.turn(1, 2)", x.turn(1, 2));
        told("x.fit(6, 8)", x.fit(6, 8));
        told("x.setFeed(21, -1)", x.setFeed(21, -1));
        told("x.foresee(2, 0)", x.foresee(2, 0));
        told("x.advise(2)", x.advise(2));
        told("x.run()", x.run());
        told("x.run()", x.run());
        told("x.faults(0, 1, 2)", x.faults(0, 1, 2));
        told("x.faults(1, 4, 5)", x.faults(1, 4, 5));
        told("x.tear(0, 1, 2)", x.tear(0, 1, 2));
        told("x.sheet(1, 2)", x.sheet(1, 2));
        told("x.pin(6, 2)", x.pin(6, 2));
        told("x.count(3)", x.count(3));
        told("x.align()", x.align());
        told("x.like(16)", x.like(16));
    }

    private void told(String call, Object answer) {
        answered.add(call + " answers " + answer);
    }

    /** The lines of the example behind its first: a call, a semicolon, // and the answer up to the colon. */
    private static List<String> writtenInReadme() throws IOException {
        List<String> written = new ArrayList<>();
        boolean inExample = false;
        for (String line : Files.readAllLines(Path.of("README.md"))) {
            if (line.startsWith("```")) {
                inExample = false;
            } else if (inExample) {
                String call = line.substring(0, line.indexOf(';'));
                String comment = line.substring(line.indexOf("//") + 2);
                written.add(call + " answers " + comment.substring(0, comment.indexOf(':')).trim());
            } else if (line.equals(FIRST_LINE)) {
                inExample = true;
            }
        }
        return written;
    }
}
