import java.io.IOException;
import java.nio.file.Files;
import java.nio.file.Path;
import java.util.ArrayList;
import java.util.EnumMap;
import java.util.HashSet;
import java.util.List;
import java.util.Map;
import java.util.Set;
import java.util.stream.Stream;

/**
 * Each sentence of the document that names a boundary case has a test of its own under src/test/runs. Of each
 * call there that is refused, or that only asks, it is tested too that nothing is changed by it.
 */
public final class SentencesTest {
    private static final int PROMISES = 31;

    private final Due due = new Due();

    /** The files of runs are found by the second argument, the document by the third one. */
    public static void main(String[] args) throws IOException {
        SentencesTest test = new SentencesTest();
        List<Sentence> all = read(Path.of(args.length > 1 ? args[1] : "src/test/runs"));
        for (Sentence sentence : all) test.hold(sentence);
        test.everyPromiseIsNamed(all);
        test.quotesAreOf(Path.of(args.length > 2 ? args[2] : "../shared/DOC.md"), all);
        System.out.println(all.size() + " sentences");
        test.due.end("SentencesTest");
    }

    private static List<Sentence> read(Path folder) throws IOException {
        List<Sentence> all = new ArrayList<>();
        try (Stream<Path> files = Files.list(folder)) {
            for (Path file : files.sorted().toList()) all.addAll(Sentence.allOf(file));
        }
        return all;
    }

    private void hold(Sentence sentence) {
        for (List<Call> run : sentence.runs) {
            due.holds(sentence.name + ": has calls", !run.isEmpty());
            CountedGarden garden = new CountedGarden();
            int calls = 0;
            for (Call call : run) {
                long answer = garden.make(call);
                calls += call.times;
                if (call.due != null) due.is(sentence.name + ": " + call.text, answer, call.due);
            }
            if (calls <= Probe.CALLS_BEFORE) nothingIsChanged(sentence, run);
        }
    }

    private void nothingIsChanged(Sentence sentence, List<Call> run) {
        List<Call> changes = new ArrayList<>();
        Map<Probe, List<String>> dueRows = new EnumMap<>(Probe.class);
        Set<String> seen = new HashSet<>();
        for (Call call : run) {
            if (!call.changesNothing()) {
                changes.add(call);
                dueRows.clear();
                seen.clear();
            } else if (seen.add(call.text)) {
                nothingIsChangedBy(sentence, changes, call, dueRows);
            }
        }
    }

    private void nothingIsChangedBy(Sentence sentence, List<Call> changes, Call call, Map<Probe, List<String>> dueRows) {
        for (Probe probe : Probe.values()) {
            List<String> want = dueRows.computeIfAbsent(probe, p -> p.of(after(changes)));
            CountedGarden garden = after(changes);
            garden.make(call);
            List<String> got = probe.of(garden);
            if (!got.equals(want)) System.out.println(firstDifference(got, want));
            due.holds(sentence.name + ": " + call.text + " changes nothing of " + probe, got.equals(want));
        }
    }

    private static CountedGarden after(List<Call> calls) {
        CountedGarden garden = new CountedGarden();
        for (Call call : calls) garden.make(call);
        return garden;
    }

    private static String firstDifference(List<String> got, List<String> want) {
        for (int i = 0; i < got.size() && i < want.size(); i++) {
            if (!got.get(i).equals(want.get(i))) return "after it " + got.get(i) + ", without it " + want.get(i);
        }
        return "after it " + got.size() + " rows, without it " + want.size();
    }

    private void everyPromiseIsNamed(List<Sentence> all) {
        Set<Integer> named = new HashSet<>();
        for (Sentence sentence : all) named.addAll(sentence.promises);
        for (int promise = 1; promise <= PROMISES; promise++) {
            due.holds("a test names promise " + promise, named.contains(promise));
        }
        due.is("promises that tests name", named.size(), PROMISES);
    }

    /** A quote that the document does not have is one of a sentence that was changed: its test is to be read again. */
    private void quotesAreOf(Path document, List<Sentence> all) throws IOException {
        String text = Files.readString(document);
        for (Sentence sentence : all) due.holds(sentence.name + ": \"" + sentence.quote + "\" is of the document",
            text.contains(sentence.quote));
    }
}
