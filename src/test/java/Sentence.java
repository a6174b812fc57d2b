import java.util.List;
import java.util.function.Supplier;
import java.util.function.ToIntFunction;

/** A sentence of the document, quoted with its part, and the looks at whether it holds. */
final class Sentence {
    private final String name;

    Sentence(String part, String words) {
        name = part + ", \"" + words + "\"";
        String text = Doc.parts().getOrDefault(part, "");
        Check.due(name + " stands in the document", text.contains(words));
    }

    void due(String what, int got, int want) {
        Check.due(name + ": " + what, got, want);
    }

    /** The answers of line(), for each what from 0 on. */
    void line(String when, MercuryLine x, int line, int... due) {
        for (int what = 0; what < due.length; what++) {
            due(when + ", line(" + line + ", " + what + ")", x.line(line, what), due[what]);
        }
    }

    void station(String when, MercuryLine x, int station, int... due) {
        for (int what = 0; what < due.length; what++) {
            due(when + ", station(" + station + ", " + what + ")", x.station(station, what), due[what]);
        }
    }

    void ticket(String when, MercuryLine x, int ticket, int... due) {
        for (int what = 0; what < due.length; what++) {
            due(when + ", ticket(" + ticket + ", " + what + ")", x.ticket(ticket, what), due[what]);
        }
    }

    void ordered(String when, MercuryLine x, int order, int... due) {
        for (int what = 0; what < due.length; what++) {
            due(when + ", ordered(" + order + ", " + what + ")", x.ordered(order, what), due[what]);
        }
    }

    void event(String when, MercuryLine x, int back, int... due) {
        for (int what = 0; what < due.length; what++) {
            due(when + ", event(" + back + ", " + what + ")", x.event(back, what), due[what]);
        }
    }

    void fate(String when, MercuryLine x, int ticket, int... due) {
        for (int what = 0; what < due.length; what++) {
            due(when + ", fate(" + ticket + ", " + what + ")", x.fate(ticket, what), due[what]);
        }
    }

    /** The answers of waiting() from the place 0 on, and none behind them. */
    void queue(String when, MercuryLine x, int station, int... due) {
        due(when + ", how many wait at " + station, x.station(station, 2), due.length);
        for (int place = 0; place <= due.length; place++) {
            due(when + ", waiting(" + station + ", " + place + ")", x.waiting(station, place),
                place < due.length ? due[place] : MercuryLine.NONE);
        }
    }

    /** The answers of calls() from the place 0 on, and none behind them. */
    void calls(String when, MercuryLine x, int station, int... due) {
        due(when + ", how many calls has " + station, x.station(station, 7), due.length);
        for (int place = 0; place <= due.length; place++) {
            due(when + ", calls(" + station + ", " + place + ")", x.calls(station, place),
                place < due.length ? due[place] : MercuryLine.NONE);
        }
    }

    /** A call is answered so, and all that is told is then as it is without that call. */
    void unchanged(String call, Supplier<MercuryLine> start, ToIntFunction<MercuryLine> made, int answer) {
        due(call, made.applyAsInt(start.get()), answer);
        same(call + " changes nothing", Told.all(start), Told.all(() -> after(start, made)));
    }

    /** A call is an act that is answered so: it records the state before it, to which undo() leads back. */
    void act(String call, Supplier<MercuryLine> start, ToIntFunction<MercuryLine> made, int answer) {
        int recorded = Math.min(start.get().count(19) + 1, 4);
        MercuryLine x = start.get();
        due(call, made.applyAsInt(x), answer);
        due(call + " is recorded", x.count(19), recorded);
        due(call + " is undone", x.undo(), recorded - 1);
        same(call + " and undo()", Told.state(start), Told.state(() -> undone(after(start, made))));
    }

    void same(String what, List<String> before, List<String> after) {
        String difference = Told.difference(before, after);
        Check.due(name + ": " + what + " " + difference, difference.isEmpty());
    }

    private static MercuryLine after(Supplier<MercuryLine> start, ToIntFunction<MercuryLine> made) {
        MercuryLine x = start.get();
        made.applyAsInt(x);
        return x;
    }

    private static MercuryLine undone(MercuryLine x) {
        x.undo();
        return x;
    }
}
