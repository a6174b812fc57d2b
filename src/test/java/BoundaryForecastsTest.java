import java.util.function.Supplier;

/** Boundary cases of the promises 29 to 31. */
public final class BoundaryForecastsTest {
    private static final int UNKNOWN = MercuryLine.UNKNOWN;
    private static final int BAD_VALUE = MercuryLine.BAD_VALUE;
    private static final int NOT_POSSIBLE = MercuryLine.NOT_POSSIBLE;
    private static final int NONE = MercuryLine.NONE;
    private static final int[] NO_STATIONS =
        {Integer.MIN_VALUE, -10, -1, 2, 6, 9, 12, 16, 19, 20, 21, Integer.MAX_VALUE};

    public static void main(String[] args) {
        fateInTheLastOf300();
        fateInTheNextTick();
        fateOfEachEnd();
        fateWithOrders();
        fateTellsOnly();
        fateUnknown();
        fateWhat();
        fateEnded();
        fateNone();
        slotNow();
        slotAround();
        slotWithHeat();
        slotTicks();
        slotStation();
        lapsFromOneToNine();
        lapsInTheNextTick();
        lapsBeyondNine();
        lapsForEver();
        lapsAtTheLatest();
        lapsAlone();
        lapsStations();
        Check.end("BoundaryForecastsTest");
    }

    /**
     * A junction that pauses for ever: a word with n laps is put out in the n-th tick behind the one in
     * which it boards, and the next boards then. Behind 33 words with nine laps, the last one ends in
     * the tick 297 + laps, and that is the 298 + laps-th from the first.
     */
    private static MercuryLine lastOf34(int laps) {
        MercuryLine x = Setup.oneLine(8, 0, 3);
        x.setHeat(0, 10);
        for (int i = 0; i < 33; i++) {
            x.book(1, 1, 0, 1, 9);
        }
        x.book(2, 1, 0, 1, laps);
        return x;
    }

    private static MercuryLine later(MercuryLine x, int ticks) {
        for (int left = ticks; left > 0; left -= 60) {
            x.tick(Math.min(left, 60));
        }
        return x;
    }

    private static void fateInTheLastOf300() {
        Sentence s = new Sentence("Promise 29", "Tells what becomes of a ticket if up to 300 ticks pass now");
        s.fate("in the 299th tick", lastOf34(1), 33, 6, 299, 0, 0);
        s.fate("in the 300th tick", lastOf34(2), 33, 6, 300, 0, 0);
        s.fate("in the 301st tick", lastOf34(3), 33, NONE, NONE, NONE, NONE);
        MercuryLine x = later(lastOf34(2), 300);
        s.ticket("so it is after 300 ticks", x, 33, 2, 1, 0, 1, 0, 20, 6, NONE, NONE, 0, 297, 299, 0);
        MercuryLine y = later(lastOf34(3), 300);
        s.ticket("it rides after 300 ticks", y, 33, 2, 1, 0, 1, 1, 30, 1, 0, 0);
        s.fate("it ends in the next", y, 33, 6, 1, 0, 0);
        s.fate("a tick later it is foretold", later(lastOf34(3), 1), 33, 6, 300, 0, 0);
    }

    private static void fateInTheNextTick() {
        Sentence s = new Sentence("Promise 29", "1 for how many ticks pass until then (with the one in which it ends)");
        MercuryLine x = Setup.twoLines();
        x.book(7, 1, 0, 1, 3);
        for (int passed = 0; passed <= 4; passed++) {
            s.fate("after " + passed, x, 0, 3, 5 - passed, 1, 3);
            x.tick(1);
        }
        s.due("it has arrived", x.ticket(0, 6), 3);
        s.due("in the tick 4, the fifth", x.ticket(0, 11), 4);
    }

    private static void fateOfEachEnd() {
        Sentence s = new Sentence("Promise 29", "what: 0 for the state in which it ends, "
            + "1 for how many ticks pass until then (with the one in which it ends), "
            + "2 for the station at which it ends, 3 for the laps that it has left then");
        MercuryLine arrives = Setup.inState(0);
        s.fate("arrives", arrives, 0, 3, 3, 1, 2);
        arrives.setHeat(0, 10);
        s.fate("laps used up", arrives, 0, 6, 3, 0, 0);
        arrives.call(0, 5);
        s.fate("called off", arrives, 0, 4, 2, 0, 2);
        arrives.callBack(0);
        arrives.tick(1);
        arrives.book(6, 2, 0, 1, 9);
        s.fate("shoved out", arrives, 0, 5, 1, 0, 1);
        MercuryLine other = Setup.shortLines();
        other.book(5, 1, 1, 11, 2);
        s.fate("arrives on the other line", other, 0, 3, 5, 11, 2);
        MercuryLine hall = Setup.inState(2);
        s.fate("arrives out of a hall", hall, 0, 3, 3, 1, 2);
    }

    private static void fateWithOrders() {
        Sentence s = new Sentence("Promise 29", "and nothing else happens (orders that there are go on)");
        MercuryLine x = Setup.oneLine(4, 0, 2);
        x.setHeat(0, 10);
        x.setPatience(0);
        x.book(1, 1, 0, 1, 9);
        x.book(2, 3, 0, 1, 9);
        x.cancel(1);
        x.order(1, 3);
        x.tick(1);
        s.due("the order's word boards first", x.slot(0, 0), 2);
        s.fate("the order's word", x, 2, 6, 9, 0, 0);
        s.fate("those that it books go ahead of ticket 0", x, 0, NONE, NONE, NONE, NONE);
        x.endOrder(0);
        s.fate("an order that is ended books none", x, 0, 6, 18, 0, 0);
        s.due("tickets", x.count(1), 3);
        MercuryLine y = Setup.oneLine(4, 0, 2);
        y.setPatience(0);
        y.setHeat(0, 10);
        y.book(1, 1, 0, 1, 9);
        y.book(2, 2, 0, 1, 9);
        y.cancel(1);
        y.tick(1);
        y.order(1, 50);
        s.fate("the first word of an order shoves it out", y, 0, 5, 1, 0, 8);
        s.due("no such ticket is booked yet", y.fate(2, 0), UNKNOWN);
    }

    private static void fateTellsOnly() {
        Sentence s = new Sentence("Promise 29", "Tells what becomes of a ticket");
        for (int what = 0; what <= 3; what++) {
            int asked = what;
            int[] due = {3, 3, 1, 2};
            s.unchanged("fate(0, " + what + ")", () -> Setup.inState(0), x -> x.fate(0, asked), due[what]);
        }
        s.unchanged("of one that ends in the 300th tick", () -> lastOf34(2), x -> x.fate(33, 1), 300);
        s.unchanged("of one that does not end", () -> lastOf34(3), x -> x.fate(33, 1), NONE);
        MercuryLine x = Setup.inState(0);
        x.keep();
        x.tick(1);
        x.fate(0, 0);
        x.restore();
        s.ticket("the snapshot stays as it was", x, 0, 5, 1, 0, 1, 2, 20, 0, NONE, NONE, 0, NONE);
    }

    private static void fateUnknown() {
        Sentence s = new Sentence("Promise 29", "- ticket: a ticket that has not ended");
        for (int ticket : new int[] {Integer.MIN_VALUE, -1, 1, 39, 40, Integer.MAX_VALUE}) {
            s.unchanged("fate(" + ticket + ", 0)", () -> Setup.inState(0), x -> x.fate(ticket, 0), UNKNOWN);
            s.unchanged("fate(" + ticket + ", 4)", () -> Setup.inState(0), x -> x.fate(ticket, 4), UNKNOWN);
        }
        s.unchanged("of a new object", MercuryLine::new, x -> x.fate(0, 0), UNKNOWN);
        s.due("the last of 40", Setup.booked(40).fate(39, 0), 3);
        s.due("behind the last of 40", Setup.booked(40).fate(40, 0), UNKNOWN);
    }

    private static void fateWhat() {
        Sentence s = new Sentence("Promise 29", "Returns the number; UNKNOWN; BAD_VALUE; NOT_POSSIBLE if it has ended");
        for (int what : new int[] {Integer.MIN_VALUE, -1, 4, 5, Integer.MAX_VALUE}) {
            s.unchanged("fate(0, " + what + ")", () -> Setup.inState(0), x -> x.fate(0, what), BAD_VALUE);
            s.unchanged("of one that has ended, " + what, () -> Setup.inState(3), x -> x.fate(0, what), BAD_VALUE);
        }
    }

    private static void fateEnded() {
        Sentence s = new Sentence("Promise 29", "NOT_POSSIBLE if it has ended");
        for (int end = 0; end <= 8; end++) {
            int state = end;
            if (end < 3) {
                s.due("not in state " + end, Setup.inState(end).fate(0, 0), 3);
            } else {
                s.unchanged("in state " + end, () -> Setup.inState(state), x -> x.fate(0, 0), NOT_POSSIBLE);
            }
        }
    }

    private static void fateNone() {
        Sentence s = new Sentence("Promise 29", "NONE if it does not end in them");
        for (int what = 0; what <= 3; what++) {
            int asked = what;
            s.unchanged("it stands at a junction for ever, " + what, () -> Setup.blockedJunction(3),
                x -> x.fate(0, asked), NONE);
            s.unchanged("it waits in the hall for ever, " + what, Setup::fullHall, x -> x.fate(3, asked), NONE);
        }
        MercuryLine x = Setup.blockedJunction(3);
        x.setHeat(0, 9);
        s.due("when the line creeps on, it does", x.fate(0, 0), 3);
    }

    private static void slotNow() {
        Sentence s = new Sentence("Promise 30", "ticks: 0 to 300");
        MercuryLine x = Setup.oneLine(8, 0, 7);
        x.tick(3);
        s.due("in 0 ticks", x.slotIn(1, 0), 2);
        s.due("as station() tells", x.station(1, 1), 2);
        s.due("in 1 tick", x.slotIn(1, 1), 3);
        s.due("in 299 ticks", x.slotIn(1, 299), (3 + 7 + 299) % 8);
        s.due("in 300 ticks", x.slotIn(1, 300), (3 + 7 + 300) % 8);
        for (int ticks : new int[] {Integer.MIN_VALUE, -1, 301, 302, Integer.MAX_VALUE}) {
            s.unchanged("in " + ticks + " ticks", Setup::twoLines, y -> y.slotIn(11, ticks), BAD_VALUE);
        }
        s.unchanged("in 300 ticks nothing has moved", Setup::twoLines, y -> y.slotIn(11, 300), 0);
    }

    private static void slotAround() {
        Sentence s = new Sentence("Promise 30", "Tells which slot of a line will be at a station if ticks pass");
        for (int slots : new int[] {2, 3, 24}) {
            MercuryLine x = Setup.oneLine(slots, slots - 1);
            for (int ticks = 0; ticks <= 2 * slots; ticks++) {
                s.due(slots + " slots, in " + ticks, x.slotIn(0, ticks), (slots - 1 + ticks) % slots);
            }
            x.tick(slots - 1);
            s.due("from the last phase", x.slotIn(0, 1), slots - 1);
        }
    }

    /** What slotIn() foretells for up to 300 ticks, and what station() tells when they have passed. */
    private static void foretold(Sentence s, Supplier<MercuryLine> start, int station) {
        MercuryLine now = start.get();
        MercuryLine then = start.get();
        int passed = 0;
        for (int ticks : new int[] {1, 2, 3, 9, 10, 11, 19, 20, 59, 119, 179, 239, 299, 300}) {
            later(then, ticks - passed);
            passed = ticks;
            s.due("of " + station + " in " + ticks, now.slotIn(station, ticks), then.station(station, 1));
        }
    }

    private static MercuryLine heated(int slots, int drift, int heat) {
        MercuryLine x = Setup.oneLine(slots, 0, 1);
        x.setHeat(0, drift);
        x.tick(1);
        x.setHeat(0, heat);
        return x;
    }

    private static void slotWithHeat() {
        Sentence s = new Sentence("Promise 30", "if ticks pass with the heat as it is");
        s.due("heat 10 never moves", heated(8, 0, 10).slotIn(0, 300), 1);
        s.due("heat -10 moves by two", heated(8, 0, -10).slotIn(0, 300), (1 + 600) % 8);
        s.due("drift 9 and heat 1 pause", heated(8, 9, 1).slotIn(0, 1), 1);
        s.due("drift 8 and heat 1 do not", heated(8, 8, 1).slotIn(0, 1), 2);
        s.due("drift -9 and heat -1 skip", heated(8, -9, -1).slotIn(0, 1), 3);
        s.due("drift -8 and heat -1 do not", heated(8, -8, -1).slotIn(0, 1), 2);
        s.due("heat 1 pauses thirty times in 300", heated(24, 0, 1).slotIn(1, 300), (2 + 270) % 24);
        for (int heat : new int[] {-10, -7, -1, 0, 1, 9, 10}) {
            for (int drift : new int[] {-9, 0, 9}) {
                foretold(s, () -> heated(7, drift, heat), 1);
            }
        }
        MercuryLine x = heated(8, 0, 10);
        x.addStation(1, 3);
        s.due("the other line has its own heat", x.slotIn(10, 1), 5);
    }

    private static void slotTicks() {
        Sentence s = new Sentence("Promise 30", "Returns the slot; UNKNOWN; BAD_VALUE.");
        for (int station : NO_STATIONS) {
            s.unchanged("slotIn(" + station + ", 1)", Setup::twoLines, x -> x.slotIn(station, 1), UNKNOWN);
            s.unchanged("slotIn(" + station + ", 301)", Setup::twoLines, x -> x.slotIn(station, 301), UNKNOWN);
            s.unchanged("slotIn(" + station + ", -1)", Setup::twoLines, x -> x.slotIn(station, -1), UNKNOWN);
        }
        s.unchanged("without stations", MercuryLine::new, x -> x.slotIn(0, 0), UNKNOWN);
    }

    private static void slotStation() {
        Sentence s = new Sentence("Promise 30", "station: a station");
        MercuryLine x = Setup.oneLine(24, 23, 4, 3, 2, 1, 0);
        for (int offset = 7; offset > 1; offset--) {
            x.addStation(1, offset);
        }
        s.due("the first of line 0", x.slotIn(0, 2), 1);
        s.due("the last of line 0", x.slotIn(5, 2), 2);
        s.due("the first of line 1", x.slotIn(10, 2), 1);
        s.due("the last of line 1", x.slotIn(15, 2), 4);
    }

    /** Whether a word that is booked now with these laps, and boards in the next tick, arrives. */
    private static int endsWith(MercuryLine x, int laps) {
        int ticket = x.book(1, 1, 0, 1, laps);
        later(x, 301);
        return x.ticket(ticket, 6);
    }

    /** On 8 slots with stations at 0 and 3, drift 9 - n and heat 9: n - 1 pauses, then the line creeps on. */
    private static void lapsFromOneToNine() {
        Sentence s = new Sentence("Promise 31", "Returns the laps, 1 to 9");
        for (int laps = 1; laps <= 9; laps++) {
            int drift = laps - 1;
            Supplier<MercuryLine> start = () -> creeping(drift);
            s.unchanged("drift " + drift, start, x -> x.lapsNeeded(0, 1), laps);
            s.due("with these laps it arrives", endsWith(start.get(), laps), 3);
            if (laps > 1) {
                s.due("with one less it does not", endsWith(start.get(), laps - 1), 6);
            }
        }
    }

    private static MercuryLine creeping(int drift) {
        MercuryLine x = Setup.oneLine(8, 0, 3);
        x.setHeat(0, drift);
        x.tick(1);
        x.setHeat(0, 9);
        return x;
    }

    private static void lapsInTheNextTick() {
        Sentence s = new Sentence("Promise 31", "Tells the fewest laps with which a word that boards at a station "
            + "in the next tick would get to another station of the same line, if the heat is as it is");
        MercuryLine x = Setup.oneLine(4, 0, 2);
        s.due("within a lap", x.lapsNeeded(0, 1), 1);
        s.due("and back", x.lapsNeeded(1, 0), 1);
        x.setHeat(0, 5);
        s.due("it pauses in the second tick, between the stations", x.lapsNeeded(0, 1), 1);
        x.tick(1);
        s.due("it pauses in the tick in which it boards", x.lapsNeeded(0, 1), 2);
        MercuryLine y = Setup.oneLine(4, 0, 3);
        y.setHeat(0, -10);
        s.due("one slot away, which a skip goes past", y.lapsNeeded(0, 1), NONE);
        y.setHeat(0, -5);
        s.due("a step, and then skips in turn", y.lapsNeeded(0, 1), 1);
        MercuryLine z = Setup.oneLine(5, 0, 4);
        z.setHeat(0, -10);
        s.due("skips on an odd line reach it behind a lap that is not used", z.lapsNeeded(0, 1), 1);
        s.due("so it is", endsWith(z, 1), 3);
    }

    private static void lapsBeyondNine() {
        Sentence s = new Sentence("Promise 31", "NONE if 9 are not enough");
        s.unchanged("nine pauses", () -> creeping(9), x -> x.lapsNeeded(0, 1), NONE);
        s.due("nine laps are not enough", endsWith(creeping(9), 9), 6);
        s.unchanged("eight pauses", () -> creeping(8), x -> x.lapsNeeded(0, 1), 9);
        s.unchanged("it pauses for ever", () -> heated(8, 0, 10), x -> x.lapsNeeded(0, 1), NONE);
        MercuryLine x = Setup.oneLine(4, 0, 1);
        x.setHeat(0, -10);
        s.due("it skips past for ever, and is back each second tick", x.lapsNeeded(0, 1), NONE);
        s.due("nine laps are not enough for that", endsWith(x, 9), 6);
    }

    private static void lapsForEver() {
        Sentence s = new Sentence("Promise 31", "or it does not get there within the 300 ticks behind that one");
        MercuryLine x = Setup.oneLine(4, 0, 2);
        x.setHeat(0, 9);
        x.tick(1);
        x.setHeat(0, -10);
        s.due("behind one step it skips past both stations for ever", x.lapsNeeded(0, 1), NONE);
        s.due("no lap is used, and it does not get there", endsWith(x, 9), 1);
        MercuryLine y = Setup.oneLine(4, 0, 2);
        y.setHeat(0, -9);
        y.tick(1);
        y.setHeat(0, 9);
        y.tick(1);
        y.setHeat(0, 10);
        s.due("it stands where it boards", y.lapsNeeded(0, 1), NONE);
    }

    /** The latest that a word gets anywhere: in the 229th tick behind the one in which it boards. */
    private static void lapsAtTheLatest() {
        Sentence s = new Sentence("Promise 31", "within the 300 ticks behind that one");
        Supplier<MercuryLine> start = () -> {
            MercuryLine x = Setup.oneLine(24, 0, 1);
            x.setHeat(0, 8);
            x.tick(1);
            x.setHeat(0, 9);
            return x;
        };
        s.due("23 steps, one in ten ticks, behind eight pauses", start.get().lapsNeeded(0, 1), 9);
        MercuryLine x = start.get();
        x.book(1, 1, 0, 1, 9);
        s.fate("so it is", x, 0, 3, 230, 1, 1);
        later(x, 229);
        s.due("before that tick", x.ticket(0, 6), 1);
        s.due("in that tick", x.tick(1), 1);
        s.due("eight laps are not enough", endsWith(start.get(), 8), 6);
    }

    private static void lapsAlone() {
        Sentence s = new Sentence("Promise 31", "and nothing else puts it out");
        Supplier<MercuryLine> start = () -> {
            MercuryLine x = Setup.oneLine(8, 0, 3, 5);
            x.setPatience(0);
            for (int value = 0; value < 3; value++) {
                x.call(2, value);
            }
            x.book(1, 3, 2, 0, 9);
            x.book(1, 3, 0, 1, 9);
            return x;
        };
        s.unchanged("others, and calls on the way", start, x -> x.lapsNeeded(0, 1), 1);
        s.unchanged("calls at its end", start, x -> x.lapsNeeded(0, 2), 1);
        s.unchanged("40 tickets", () -> Setup.booked(40), x -> x.lapsNeeded(1, 0), 1);
    }

    private static void lapsStations() {
        Sentence s = new Sentence("Promise 31",
            "- from: a station - to: a station Returns the laps, 1 to 9; UNKNOWN (from or to); "
            + "BAD_VALUE if they are the same or on different lines");
        for (int station : NO_STATIONS) {
            s.unchanged("from " + station, Setup::twoLines, x -> x.lapsNeeded(station, 1), UNKNOWN);
            s.unchanged("to " + station, Setup::twoLines, x -> x.lapsNeeded(1, station), UNKNOWN);
            s.unchanged("from and to " + station, Setup::twoLines, x -> x.lapsNeeded(station, station), UNKNOWN);
        }
        int[] stations = {0, 1, 10, 11};
        for (int from : stations) {
            for (int to : stations) {
                boolean bad = from == to || from / 10 != to / 10;
                s.unchanged("from " + from + " to " + to, Setup::twoLines,
                    x -> x.lapsNeeded(from, to), bad ? BAD_VALUE : 1);
            }
        }
        s.unchanged("without stations", MercuryLine::new, x -> x.lapsNeeded(0, 0), UNKNOWN);
    }
}
