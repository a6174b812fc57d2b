import java.util.ArrayList;
import java.util.List;
import java.util.function.Supplier;

/**
 * All that an object tells, in rows. An object is used for few calls, and some of these change it:
 * so each part is asked of an object of its own that was brought to the same state.
 */
final class Told {
    private static final int ENOUGH_TICKS = 25;

    private Told() {
    }

    /** A state: everything but the text, the history and the snapshot. */
    static List<String> state(Supplier<MercuryLine> start) {
        List<String> rows = new ArrayList<>();
        lines(start.get(), rows);
        stations(start.get(), rows);
        tickets(start.get(), 0, 20, rows);
        tickets(start.get(), 20, 40, rows);
        MercuryLine last = start.get();
        orders(last, rows);
        events(last, rows);
        later(start.get(), rows);
        return rows;
    }

    static List<String> all(Supplier<MercuryLine> start) {
        List<String> rows = state(start);
        MercuryLine x = start.get();
        int recorded = x.count(19);
        row(rows, "states in the history", recorded);
        row(rows, "length of the text", x.count(20));
        row(rows, "tickets read from the text", x.readTickets());
        for (int undone = 1; undone <= recorded; undone++) {
            int times = undone;
            rows.addAll(state(() -> undo(start.get(), times)));
        }
        row(rows, "restored", start.get().restore());
        rows.addAll(state(() -> restore(start.get())));
        return rows;
    }

    /** The first row in which two of them differ, or nothing. */
    static String difference(List<String> before, List<String> after) {
        for (int i = 0; i < before.size() && i < after.size(); i++) {
            if (!before.get(i).equals(after.get(i))) {
                return before.get(i) + " before, " + after.get(i) + " after";
            }
        }
        return before.size() == after.size() ? "" : before.size() + " rows before, " + after.size() + " after";
    }

    private static MercuryLine undo(MercuryLine x, int times) {
        for (int i = 0; i < times; i++) {
            x.undo();
        }
        return x;
    }

    private static MercuryLine restore(MercuryLine x) {
        x.restore();
        return x;
    }

    private static void row(List<String> rows, String what, int answer) {
        rows.add(what + " " + answer);
    }

    private static void lines(MercuryLine x, List<String> rows) {
        for (int what = 0; what <= 18; what++) {
            row(rows, "count " + what, x.count(what));
        }
        for (int line = 0; line < 2; line++) {
            for (int what = 0; what <= 8; what++) {
                row(rows, "line " + line + " " + what, x.line(line, what));
            }
            for (int slot = 0; slot <= 24; slot++) {
                row(rows, "slot " + line + " " + slot, x.slot(line, slot));
            }
        }
    }

    private static void stations(MercuryLine x, List<String> rows) {
        for (int station = 0; station <= 15; station++) {
            if (station % 10 < x.line(station / 10, 4)) {
                for (int what = 0; what <= 8; what++) {
                    row(rows, "station " + station + " " + what, x.station(station, what));
                }
                for (int place = 0; place < 3; place++) {
                    row(rows, "call " + station + " " + place, x.calls(station, place));
                }
                for (int place = 0; place < 4; place++) {
                    row(rows, "waiting " + station + " " + place, x.waiting(station, place));
                }
            }
        }
    }

    private static void tickets(MercuryLine x, int first, int end, List<String> rows) {
        int tickets = x.count(1);
        for (int ticket = first; ticket < end && ticket < tickets; ticket++) {
            for (int what = 0; what <= 13; what++) {
                row(rows, "ticket " + ticket + " " + what, x.ticket(ticket, what));
            }
        }
    }

    private static void orders(MercuryLine x, List<String> rows) {
        for (int order = 0; order < x.count(17); order++) {
            for (int what = 0; what <= 6; what++) {
                row(rows, "order " + order + " " + what, x.ordered(order, what));
            }
        }
    }

    private static void events(MercuryLine x, List<String> rows) {
        for (int back = 0; back <= 12; back++) {
            for (int what = 0; what <= 4; what++) {
                row(rows, "event " + back + " " + what, x.event(back, what));
            }
        }
    }

    /** What is told of no word by itself, such as since when it waits, shows in what becomes of it. */
    private static void later(MercuryLine x, List<String> rows) {
        row(rows, "arrivals later", x.tick(ENOUGH_TICKS));
        List<String> then = new ArrayList<>();
        lines(x, then);
        events(x, then);
        then.forEach(row -> rows.add("later " + row));
    }
}
