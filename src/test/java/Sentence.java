import java.io.IOException;
import java.nio.file.Files;
import java.nio.file.Path;
import java.util.ArrayList;
import java.util.List;
import java.util.regex.Matcher;
import java.util.regex.Pattern;

/** A sentence of the document that names a boundary case, and runs of calls, each on a new object, that hold it. */
final class Sentence {
    private static final Pattern HEAD = Pattern.compile("== Promises? ([\\d, ]+) \\| (.+) \\| (.+)");

    final String name, quote;
    final List<Integer> promises = new ArrayList<>();
    final List<List<Call>> runs = new ArrayList<>();

    private Sentence(Path file, int line, Matcher head) {
        for (String number : head.group(1).split(", ")) promises.add(Integer.parseInt(number));
        quote = head.group(2);
        name = "promise " + head.group(1) + ", " + head.group(3) + " (" + file.getFileName() + ":" + line + ")";
        runs.add(new ArrayList<>());
    }

    static List<Sentence> allOf(Path file) throws IOException {
        List<Sentence> all = new ArrayList<>();
        List<String> lines = Files.readAllLines(file);
        for (int i = 0; i < lines.size(); i++) {
            String line = lines.get(i).replaceAll("//.*", "").strip();
            if (line.isEmpty()) continue;
            Matcher head = HEAD.matcher(line);
            if (head.matches()) all.add(new Sentence(file, i + 1, head));
            else if (all.isEmpty() || line.startsWith("==")) throw new IllegalArgumentException(file + ": " + line);
            else all.get(all.size() - 1).add(line);
        }
        return all;
    }

    private void add(String line) {
        if (line.equals("new")) {
            runs.add(new ArrayList<>());
            return;
        }
        for (String call : line.split(";")) runs.get(runs.size() - 1).add(Call.of(call.strip()));
    }
}
