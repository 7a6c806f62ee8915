import java.util.ArrayList;
import java.util.List;

/** Asks a garden for all that can be seen of one part of its state; the garden is used up by it. */
enum Probe {
    THINGS, CORRECTIONS, LATITUDE, CHANGES, HOURS_LEFT, SIGHTS, TURNS;

    /** With so many calls before it no probe comes to more calls than an object is used for. */
    static final int CALLS_BEFORE = 140;
    private static final int PLACES = 40, TURNS_ASKED = 100;

    /** Rows of "call = answer". */
    List<String> of(CountedGarden garden) {
        Rows rows = new Rows(garden);
        switch (this) {
            case THINGS -> things(rows);
            case CORRECTIONS -> {
                for (int day = 0; day < 366; day++) rows.ask("sun", day, 0, 5);
            }
            case LATITUDE -> {
                for (int what = 0; what < 3; what++) rows.ask("sun", 100, 500, what);
                rows.ask("latitude", 0);
            }
            case CHANGES -> changes(rows);
            case HOURS_LEFT -> hoursLeft(rows);
            case SIGHTS -> sights(rows);
            case TURNS -> turns(rows);
        }
        return rows.all;
    }

    private static void things(Rows rows) {
        for (int what = 0; what <= 6; what++) rows.ask("count", what);
        for (int place = 0; place < PLACES; place++) {
            if (rows.ask("holds", place) != 0) properties(rows, place);
        }
    }

    private static void properties(Rows rows, long place) {
        for (int what = 0; what <= 5; what++) rows.ask("about", place, what);
    }

    private static void changes(Rows rows) {
        for (int i = 0; i < 17; i++) {
            long place = rows.ask("undo");
            if (place < 0) return;
            rows.ask("holds", place);
            properties(rows, place);
        }
    }

    private static void hoursLeft(Rows rows) {
        for (int place = 0, dials = 0; place < PLACES && dials < 10; place++) {
            if (rows.ask("isOf", place, 4) != 1) continue;
            dials++;
            for (int hour = 0; hour < 24; hour++) rows.ask("left", place, hour, 1);
        }
    }

    private static void sights(Rows rows) {
        for (int place = 0; place < PLACES; place++) {
            long found = rows.ask("found", place);
            if (found < 0) continue;
            rows.ask("turn", 0);
            rows.ask("turn", found - 1);
        }
        rows.ask("forget");
    }

    private static void turns(Rows rows) {
        long kept = rows.ask("count", 6);
        for (int i = 0; i < Math.min(kept, TURNS_ASKED); i++) rows.ask("turn", i);
        rows.ask("turn", kept - 1);
        rows.ask("turn", kept);
    }

    private static final class Rows {
        private final CountedGarden garden;
        private final List<String> all = new ArrayList<>();

        Rows(CountedGarden garden) {
            this.garden = garden;
        }

        long ask(String name, long... arguments) {
            long answer = garden.ask(name, arguments);
            StringBuilder row = new StringBuilder(name).append('(');
            for (int i = 0; i < arguments.length; i++) row.append(i == 0 ? "" : ", ").append(arguments[i]);
            all.add(row.append(") = ").append(answer).toString());
            return answer;
        }
    }
}
