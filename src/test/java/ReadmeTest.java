import java.io.IOException;
import java.nio.file.Files;
import java.nio.file.Path;
import java.util.List;
import java.util.regex.Matcher;
import java.util.regex.Pattern;

/** The calls of README.md answer what is said there behind each of them. */
public final class ReadmeTest {
    private static final Pattern CALL = Pattern.compile("garden\\.(\\w+\\(.*\\)); +// (-?\\w+)(: .+)?");

    /** README.md is found by the fourth argument. */
    public static void main(String[] args) throws IOException {
        Due due = new Due();
        CountedGarden garden = new CountedGarden();
        for (String line : example(Files.readString(Path.of(args.length > 3 ? args[3] : "README.md")))) {
            if (!line.startsWith("garden.")) continue;
            Matcher form = CALL.matcher(line);
            due.holds("README.md says what this answers: " + line, form.matches());
            if (!form.matches()) continue;
            Call call = Call.of(form.group(1).replaceAll("(\\d)L\\b", "$1") + " = " + form.group(2));
            due.is("README.md: " + call.text, garden.make(call), call.due);
        }
        due.end("ReadmeTest");
    }

    private static List<String> example(String text) {
        Matcher block = Pattern.compile("(?s)```java\n(.*?)```").matcher(text);
        return block.find() ? block.group(1).lines().toList() : List.of();
    }
}
