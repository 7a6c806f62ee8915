import java.util.ArrayList;
import java.util.List;
import java.util.Set;
import java.util.regex.Matcher;
import java.util.regex.Pattern;

/** One call as the files of runs write it, such as "face(1, 65536) = BAD" or "16 times face(1, 5)". */
final class Call {
    private static final Pattern FORM = Pattern.compile("(?:(\\d+) times )?(\\w+)\\((.*)\\)(?: = (\\S+))?");
    private static final Pattern OTHER_END = Pattern.compile("to\\((-?\\d+), (-?\\d+)\\)");
    private static final Set<String> ONLY_ASKING = Set.of("sine", "sun", "holds", "isOf", "about", "state", "hides",
        "end", "line", "read", "late", "stretches", "stretch", "turn", "count");

    final String text, name;
    final int times;
    final long[] arguments;
    /** Null if the answer is not looked at. */
    final Long due;

    private Call(Matcher form) {
        text = form.group();
        times = form.group(1) == null ? 1 : Integer.parseInt(form.group(1));
        name = form.group(2);
        arguments = numbers(form.group(3));
        due = form.group(4) == null ? null : number(form.group(4));
    }

    static Call of(String text) {
        Matcher form = FORM.matcher(text);
        if (!form.matches()) throw new IllegalArgumentException("this is no call: " + text);
        return new Call(form);
    }

    /** Whether the garden must be the same after it. */
    boolean changesNothing() {
        return ONLY_ASKING.contains(name) || isRefused();
    }

    private boolean isRefused() {
        return due != null && (due == Due.BAD || due == Due.NO || due == Due.FULL);
    }

    /** A house's other end is written to(x, y), in place of the one number that tells it. */
    private static long[] numbers(String list) {
        Matcher end = OTHER_END.matcher(list);
        String plain = end.replaceAll(found -> String.valueOf(
            32768 * (Long.parseLong(found.group(1)) + 16384) + Long.parseLong(found.group(2)) + 16384));
        List<Long> all = new ArrayList<>();
        for (String one : plain.split(",")) if (!one.isBlank()) all.add(number(one.strip()));
        return all.stream().mapToLong(Long::longValue).toArray();
    }

    private static long number(String word) {
        return switch (word) {
            case "BAD" -> Due.BAD;
            case "NO" -> Due.NO;
            case "FULL" -> Due.FULL;
            case "NONE" -> Due.NONE;
            case "MIN" -> Integer.MIN_VALUE;
            case "MAX" -> Integer.MAX_VALUE;
            case "LONG_MIN" -> Long.MIN_VALUE;
            case "LONG_MAX" -> Long.MAX_VALUE;
            default -> Long.parseLong(word);
        };
    }
}
