import java.io.IOException;
import java.nio.file.Files;
import java.nio.file.Path;
import java.util.ArrayList;
import java.util.List;
import java.util.regex.Matcher;
import java.util.regex.Pattern;

/** The example in README.md answers what the remark behind each of its calls says. */
public final class ReadmeTest {
    private static final Pattern CALL = Pattern.compile("post\\.(\\w+\\(.*?\\)); +// ([^:]+)(: .*)?");

    public static void main(String[] args) throws IOException {
        Check check = new Check();
        StringBuilder run = new StringBuilder();
        List<String> wrong = new ArrayList<>(List.of("no call found"));
        for (String line : Files.readAllLines(Path.of("README.md"))) {
            if (line.startsWith("post.")) {
                wrong.remove("no call found");
                Matcher m = CALL.matcher(line);
                if (m.matches()) {
                    run.append(m.group(1)).append(' ').append(m.group(2)).append('\n');
                } else {
                    wrong.add("no answer behind: " + line);
                }
            }
        }
        check.that("README.md has an answer behind each call of its example", wrong);
        check.run("the example in README.md", run.toString());
        check.end();
    }
}
