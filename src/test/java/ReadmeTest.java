import java.io.IOException;
import java.nio.charset.StandardCharsets;
import java.nio.file.Files;
import java.nio.file.Path;
import java.util.ArrayList;
import java.util.List;
import java.util.regex.Matcher;
import java.util.regex.Pattern;

/** The example of README.md, with the answers that its comments tell, and that README.md still has it. */
public final class ReadmeTest {
    private static final Pattern TOLD = Pattern.compile("^x\\.([a-zA-Z]+\\([^;]*\\)); *// (-?\\d+):.*");

    private final List<String> ran = new ArrayList<>();

    private ReadmeTest() {
    }

    public static void main(String[] args) throws IOException {
        ReadmeTest test = new ReadmeTest();
        test.runTheExample();
        Expect.due("the calls in README.md, with their answers", test.ran.toString(), toldInReadme().toString());
        Expect.end();
    }

    private void runTheExample() {
        RoamBooks x = new RoamBooks();
        x.reach(0, 3);
        x.agree(0, 1, 0, 1000000, 5, 10, 2);
        int anna = x.subscriber(0, 0, 0);
        int bert = x.subscriber(1, 0, 0);
        answered("attach(anna, 1)", x.attach(anna, 1));
        answered("attach(bert, 1)", x.attach(bert, 1));
        answered("call(anna, bert, 600)", x.call(anna, bert, 600));
        answered("subscriberIs(anna, 4)", x.subscriberIs(anna, 4));
        answered("subscriberIs(bert, 3)", x.subscriberIs(bert, 3));
        answered("file(1, 0)", x.file(1, 0));
        answered("deliver(1, 0, 0)", x.deliver(1, 0, 0));
        answered("owes(0, 1)", x.owes(0, 1));
    }

    private void answered(String call, int answer) {
        ran.add(call + " = " + answer);
    }

    private static List<String> toldInReadme() throws IOException {
        String source = System.getProperty("roambooks.source", "src/main/java/RoamBooks.java");
        Path readme = Path.of(source).toAbsolutePath().resolve("../../../../README.md").normalize();
        List<String> told = new ArrayList<>();
        for (String line : Files.readAllLines(readme, StandardCharsets.UTF_8)) {
            Matcher matcher = TOLD.matcher(line);
            if (matcher.matches()) {
                told.add(matcher.group(1) + " = " + matcher.group(2));
            }
        }
        return told;
    }
}
