import java.util.function.Supplier;

/** Boundary cases of the part LOG, and of the promises 21 to 28, 32 and 33. */
public final class BoundaryToldTest {
    private static final int UNKNOWN = MercuryLine.UNKNOWN;
    private static final int BAD_VALUE = MercuryLine.BAD_VALUE;
    private static final int NONE = MercuryLine.NONE;
    private static final int[] NO_LINES = {Integer.MIN_VALUE, -1, 2, 10, Integer.MAX_VALUE};
    private static final int[] NO_STATIONS =
        {Integer.MIN_VALUE, -10, -1, 2, 6, 9, 12, 16, 19, 20, 21, Integer.MAX_VALUE};
    private static final int[] FAR = {Integer.MIN_VALUE, -100, -1, 21, 100, Integer.MAX_VALUE};

    public static void main(String[] args) {
        twelveEvents();
        kindsOfEvents();
        lineLine();
        lineWhat();
        lineNumbers();
        lineCounters();
        slotLine();
        slotRange();
        slotReturns();
        stationOfEachLine();
        stationWhat();
        stationNumbers();
        stationNextToBoard();
        waitingStation();
        waitingPlaces();
        waitingWithoutTheHall();
        callsStation();
        callsPlaces();
        ticketTicket();
        ticketWhat();
        ticketNumbers();
        ticketLineAndSlot();
        ticketTicks();
        ticketEnds();
        orderedOrder();
        orderedWhat();
        orderedNumbers();
        priceRange();
        priceOfNow();
        eventBack();
        eventWhat();
        eventUndone();
        countWhat();
        countStates();
        countAccounts();
        countArrivedValues();
        countHistoryAndText();
        Check.end("BoundaryToldTest");
    }

    /** A line 1 that pauses in each tick, and nobody on it: an event in each tick. */
    private static MercuryLine pausing(int ticks) {
        MercuryLine x = new MercuryLine();
        x.setHeat(1, 10);
        if (ticks > 0) {
            x.tick(ticks);
        }
        return x;
    }

    private static void twelveEvents() {
        Sentence s = new Sentence("LOG", "The latest 12 events are known.");
        for (int events : new int[] {0, 1, 11, 12, 13, 24, 25, 60}) {
            MercuryLine x = pausing(events);
            int known = Math.min(events, 12);
            for (int back = 0; back < known; back++) {
                s.event("of " + events, x, back, 6, NONE, 1, NONE, events - 1 - back);
            }
            s.event("no more of " + events, x, known, NONE, NONE, NONE, NONE, NONE);
            s.due("far back", x.event(Integer.MAX_VALUE, 0), NONE);
        }
    }

    private static void kindsOfEvents() {
        Sentence s = new Sentence("LOG", "The kinds of events are: 0 a word boards, 1 arrives, 2 is called off, "
            + "3 gets into a hall (line and station: where it got off), 4 is put out as its laps are used up, "
            + "5 is shoved out; 6 a line pauses, 7 a line skips; 8 a word is put out as its line is drained.");
        s.event("no event of booking", Setup.inState(0), 0, NONE, NONE, NONE, NONE, NONE);
        s.event("boards", Setup.inState(1), 0, 0, 0, 0, 0, 0);
        s.event("gets into a hall", Setup.inState(2), 0, 3, 0, 1, 10, 2);
        s.event("arrives", Setup.inState(3), 0, 1, 0, 0, 1, 2);
        s.event("is called off", Setup.inState(4), 0, 2, 0, 0, 0, 2);
        s.event("is shoved out", Setup.inState(5), 2, 5, 0, 0, 0, 1);
        s.event("the one that shoved boards behind it", Setup.inState(5), 1, 0, 1, 0, 0, 1);
        s.event("and the line pauses behind that", Setup.inState(5), 0, 6, NONE, 0, NONE, 1);
        s.event("laps are used up", Setup.inState(6), 1, 4, 0, 0, 0, 2);
        s.event("is drained", Setup.inState(7), 0, 8, 0, 0, NONE, 1);
        s.event("no event of cancelling", Setup.inState(8), 0, NONE, NONE, NONE, NONE, NONE);
        MercuryLine x = new MercuryLine();
        x.setHeat(1, -10);
        x.tick(3);
        s.event("a line skips", x, 0, 7, NONE, 1, NONE, 2);
        MercuryLine y = Setup.shortLines();
        y.book(1, 1, 11, 10, 1);
        y.tick(3);
        s.event("arrives on line 1", y, 0, 1, 0, 1, 10, 2);
        s.event("boards on line 1", y, 1, 0, 0, 1, 11, 0);
    }

    private static void lineLine() {
        Sentence s = new Sentence("Promise 21", "- line: 0 or 1");
        for (int line : NO_LINES) {
            s.unchanged("line(" + line + ", 0)", Setup::twoLines, x -> x.line(line, 0), UNKNOWN);
            s.unchanged("line(" + line + ", 9)", Setup::twoLines, x -> x.line(line, 9), UNKNOWN);
        }
        MercuryLine x = Setup.oneLine(2, 0, 1);
        s.line("line 0", x, 0, 2, 0, 100, 100, 2, 0, 0, 0, 0);
        s.line("line 1", x, 1, 8, 0, 100, 100, 0, 0, 0, 0, 0);
    }

    private static void lineWhat() {
        Sentence s = new Sentence("Promise 21", "Returns the number; UNKNOWN; BAD_VALUE.");
        for (int what : new int[] {Integer.MIN_VALUE, -1, 9, 10, Integer.MAX_VALUE}) {
            s.unchanged("line(0, " + what + ")", Setup::twoLines, x -> x.line(0, what), BAD_VALUE);
            s.unchanged("line(1, " + what + ")", Setup::twoLines, x -> x.line(1, what), BAD_VALUE);
        }
    }

    private static void lineNumbers() {
        Sentence s = new Sentence("Promise 21", "what: 0 for its slots, 1 for its phase, 2 for its drift plus 100, "
            + "3 for its heat plus 100, 4 for its stations, 5 for the words that ride on it, 6 for those in its hall");
        s.line("of a new object", new MercuryLine(), 1, 8, 0, 100, 100, 0, 0, 0, 0, 0);
        MercuryLine x = Setup.fullHall();
        x.book(4, 1, 11, 1, 9);
        x.book(5, 1, 10, 11, 9);
        x.setHeat(1, -9);
        x.tick(1);
        s.line("a full hall", x, 0, 3, 1, 100, 110, 3, 1, 3, 6, 0);
        s.line("two ride, none in the hall", x, 1, 4, 3, 91, 91, 2, 2, 0, 0, 0);
        x.setHeat(0, 9);
        x.tick(1);
        s.line("the greatest drift", x, 0, 3, 2, 109, 109, 3, 1, 3, 6, 0);
        s.line("a skip", x, 1, 4, 1, 92, 91, 2, 2, 0, 0, 1);
    }

    private static void lineCounters() {
        Sentence s = new Sentence("Promise 21", "7 for how often it has paused, 8 for how often it has skipped");
        MercuryLine x = pausing(60);
        x.setHeat(0, -10);
        x.tick(60);
        s.due("pauses of line 1", x.line(1, 7), 120);
        s.due("skips of line 1", x.line(1, 8), 0);
        s.due("pauses of line 0", x.line(0, 7), 0);
        s.due("skips of line 0", x.line(0, 8), 60);
        x.undo();
        s.due("undone", x.line(0, 8), 0);
        s.due("undone", x.line(1, 7), 60);
    }

    private static void slotLine() {
        Sentence s = new Sentence("Promise 22", "- line: 0 or 1");
        for (int line : NO_LINES) {
            s.unchanged("slot(" + line + ", 0)", Setup::twoLines, y -> y.slot(line, 0), UNKNOWN);
            s.unchanged("slot(" + line + ", -1)", Setup::twoLines, y -> y.slot(line, -1), UNKNOWN);
        }
        MercuryLine x = lastStations();
        s.due("of line 0", x.slot(0, 5), 0);
        s.due("of line 1", x.slot(1, 5), 1);
    }

    private static void slotRange() {
        Sentence s = new Sentence("Promise 22", "slot: one of its slots");
        for (int slots : new int[] {2, 8, 24}) {
            Supplier<MercuryLine> start = () -> Setup.oneLine(slots, 0, 1);
            s.unchanged("the first of " + slots, start, x -> x.slot(0, 0), NONE);
            s.unchanged("the last of " + slots, start, x -> x.slot(0, slots - 1), NONE);
            s.unchanged("behind the last of " + slots, start, x -> x.slot(0, slots), BAD_VALUE);
            s.unchanged("before the first of " + slots, start, x -> x.slot(0, -1), BAD_VALUE);
            s.unchanged("far behind", start, x -> x.slot(0, Integer.MAX_VALUE), BAD_VALUE);
            s.unchanged("far before", start, x -> x.slot(0, Integer.MIN_VALUE), BAD_VALUE);
            s.unchanged("the other line has 8", start, x -> x.slot(1, 7), NONE);
            s.unchanged("and no ninth", start, x -> x.slot(1, 8), BAD_VALUE);
        }
    }

    private static void slotReturns() {
        Sentence s = new Sentence("Promise 22",
            "Returns the ticket of the word in it; UNKNOWN; BAD_VALUE; NONE if it is empty.");
        MercuryLine x = Setup.oneLine(8, 7, 0);
        x.book(1, 1, 0, 1, 9);
        x.book(2, 1, 1, 0, 9);
        x.tick(1);
        s.due("the last slot", x.slot(0, 7), 0);
        s.due("the first slot", x.slot(0, 0), 1);
        s.due("an empty one", x.slot(0, 6), NONE);
        s.due("of the other line", x.slot(1, 7), NONE);
        x.tick(1);
        s.due("who was in the first has arrived", x.slot(0, 0), NONE);
        s.due("the other one has not", x.slot(0, 7), 0);
    }

    private static void stationOfEachLine() {
        Sentence s = new Sentence("Promise 23", "- station: a station");
        for (int station : NO_STATIONS) {
            s.unchanged("station(" + station + ", 0)", Setup::twoLines, x -> x.station(station, 0), UNKNOWN);
            s.unchanged("station(" + station + ", 9)", Setup::twoLines, x -> x.station(station, 9), UNKNOWN);
        }
        for (int station : new int[] {0, 5, 10, 15}) {
            s.due("the offset of " + station, lastStations().station(station, 0), station % 10);
            s.due("behind the last of a line", lastStations().station(station / 10 * 10 + 6, 0), UNKNOWN);
        }
    }

    private static void stationWhat() {
        Sentence s = new Sentence("Promise 23", "Returns the number; UNKNOWN; BAD_VALUE.");
        for (int what : new int[] {Integer.MIN_VALUE, -1, 9, 10, Integer.MAX_VALUE}) {
            s.unchanged("station(11, " + what + ")", Setup::twoLines, x -> x.station(11, what), BAD_VALUE);
        }
        s.station("of a new one", Setup.twoLines(), 11, 4, 4, 0, 0, 0, 0, 0, 0, NONE);
    }

    private static void stationNumbers() {
        Sentence s = new Sentence("Promise 23", "what: 0 for its offset, 1 for the slot that is at it, "
            + "2 for the words that wait at it, 3 for those that have boarded at it (from the hall, too), "
            + "4 for those that have arrived at it, 5 for those that were called off at it, "
            + "6 for those that were shoved out at it, 7 for its calls");
        MercuryLine x = Setup.oneLine(4, 3, 1);
        x.addStation(1, 0);
        x.addStation(1, 4);
        x.setPatience(0);
        x.book(1, 1, 11, 0, 9);
        x.book(2, 1, 0, 1, 9);
        x.book(3, 1, 0, 1, 9);
        x.call(0, 9);
        x.call(0, 8);
        s.station("two wait, two calls", x, 0, 3, 3, 2, 0, 0, 0, 0, 2, 1);
        x.tick(5);
        s.station("two have boarded, one is in the hall", x, 0, 3, 0, 0, 2, 0, 0, 0, 2, 0);
        s.station("where they arrive", x, 1, 1, 2, 0, 0, 2, 0, 0, 0, NONE);
        x.tick(1);
        s.station("one has boarded from the hall", x, 0, 3, 1, 0, 3, 0, 0, 0, 2, NONE);
        x.tick(4);
        s.station("one has arrived", x, 0, 3, 1, 0, 3, 1, 0, 0, 2, NONE);
        s.station("shoved out there", Setup.inState(5), 0, 0, 0, 0, 2, 0, 0, 1, 0, NONE);
        s.station("called off there", Setup.inState(4), 0, 0, 3, 0, 0, 0, 1, 0, 0, NONE);
        s.station("laps used up there", Setup.inState(6), 0, 0, 0, 0, 1, 0, 0, 0, 0, NONE);
        s.station("left into a hall there", Setup.inState(2), 10, 0, 3, 0, 0, 0, 0, 0, 0, NONE);
    }

    private static void stationNextToBoard() {
        Sentence s = new Sentence("Promise 23",
            "8 for the ticket of the one that would board next (of the hall, too; NONE if there is none)");
        s.due("nobody", Setup.twoLines().station(0, 8), NONE);
        MercuryLine x = Setup.fullHall();
        x.book(4, 3, 0, 1, 9);
        x.book(5, 3, 1, 0, 9);
        s.due("the first of the hall", x.station(0, 8), 1);
        s.due("the first that waits elsewhere", x.station(1, 8), 5);
        s.due("nobody elsewhere", x.station(2, 8), NONE);
        s.due("nobody at the other junction", x.station(10, 8), NONE);
        x.cancel(1);
        s.due("the second of the hall", x.station(0, 8), 2);
        x.cancel(2);
        x.cancel(3);
        s.due("the first of the station when the hall is empty", x.station(0, 8), 4);
        x.cancel(4);
        s.due("nobody then", x.station(0, 8), NONE);
    }

    private static void waitingStation() {
        Sentence s = new Sentence("Promise 24", "- station: a station");
        for (int station : NO_STATIONS) {
            s.unchanged("waiting(" + station + ", 0)", Setup::twoLines, x -> x.waiting(station, 0), UNKNOWN);
            s.unchanged("waiting(" + station + ", -1)", Setup::twoLines, x -> x.waiting(station, -1), UNKNOWN);
        }
        MercuryLine x = Setup.twoLines();
        for (int station : new int[] {11, 10, 1, 0}) {
            x.book(1, 1, station, station == 0 ? 1 : 0, 1);
        }
        s.queue("at 0", x, 0, 3);
        s.queue("at 1", x, 1, 2);
        s.queue("at 10", x, 10, 1);
        s.queue("at 11", x, 11, 0);
    }

    private static void waitingPlaces() {
        Sentence s = new Sentence("Promise 24",
            "Returns the ticket; UNKNOWN; BAD_VALUE if place is negative; NONE if there are not so many.");
        for (int number : new int[] {0, 1, 39, 40}) {
            MercuryLine x = Setup.booked(number);
            for (int place = 0; place < number; place++) {
                s.due("place " + place, x.waiting(0, place), place);
            }
            s.due("behind the last of " + number, x.waiting(0, number), NONE);
            s.due("far behind", x.waiting(0, Integer.MAX_VALUE), NONE);
            s.due("place -1", x.waiting(0, -1), BAD_VALUE);
            s.due("far before", x.waiting(0, Integer.MIN_VALUE), BAD_VALUE);
            s.due("of another station", x.waiting(1, 0), NONE);
        }
        MercuryLine x = Setup.booked(3);
        x.cancel(1);
        s.queue("one is cancelled", x, 0, 0, 2);
        x.tick(1);
        s.queue("one has boarded", x, 0, 2);
        x.tick(1);
        s.queue("none is left", x, 0);
    }

    private static void waitingWithoutTheHall() {
        Sentence s = new Sentence("Promise 24", "place: a place among those that wait at it (the hall not), from 0");
        MercuryLine x = Setup.fullHall();
        s.queue("three are in the hall", x, 0);
        s.due("as the line tells", x.line(0, 6), 3);
        x.book(9, 1, 0, 1, 1);
        x.book(9, 2, 0, 1, 1);
        s.queue("two wait at the station", x, 0, 5, 4);
        s.queue("none at that of the other line", x, 10);
    }

    private static void callsStation() {
        Sentence s = new Sentence("Promise 25", "- station: a station - place: a place among its calls, from 0");
        for (int station : NO_STATIONS) {
            s.unchanged("calls(" + station + ", 0)", Setup::twoLines, y -> y.calls(station, 0), UNKNOWN);
            s.unchanged("calls(" + station + ", -1)", Setup::twoLines, y -> y.calls(station, -1), UNKNOWN);
        }
        MercuryLine x = Setup.twoLines();
        for (int station : new int[] {0, 1, 10, 11}) {
            x.call(station, 7);
            x.call(station, station);
            s.calls("each has its own", x, station, 7, station);
        }
    }

    private static void callsPlaces() {
        Sentence s = new Sentence("Promise 25",
            "Returns the value; UNKNOWN; BAD_VALUE if place is negative; NONE if there are not so many.");
        MercuryLine x = Setup.twoLines();
        int[] values = {65535, 0, 65535};
        for (int number = 0; number <= 3; number++) {
            s.due("behind the last of " + number, x.calls(10, number), NONE);
            s.due("far behind", x.calls(10, Integer.MAX_VALUE), NONE);
            s.due("place -1", x.calls(10, -1), BAD_VALUE);
            s.due("far before", x.calls(10, Integer.MIN_VALUE), BAD_VALUE);
            if (number < 3) {
                x.call(10, values[number]);
                s.due("the last", x.calls(10, number), values[number]);
            }
        }
        s.calls("three", x, 10, values);
        s.calls("none at the other station 0", x, 0);
    }

    private static void ticketTicket() {
        Sentence s = new Sentence("Promise 26", "- ticket: a ticket");
        for (int ticket : new int[] {Integer.MIN_VALUE, -1, 1, 39, 40, Integer.MAX_VALUE}) {
            s.unchanged("ticket(" + ticket + ", 0)", () -> Setup.booked(1), x -> x.ticket(ticket, 0), UNKNOWN);
            s.unchanged("ticket(" + ticket + ", 14)", () -> Setup.booked(1), x -> x.ticket(ticket, 14), UNKNOWN);
        }
        s.unchanged("of a new object", MercuryLine::new, x -> x.ticket(0, 0), UNKNOWN);
        s.due("the last of 40", Setup.booked(40).ticket(39, 0), 39);
        s.due("behind it", Setup.booked(40).ticket(40, 0), UNKNOWN);
        MercuryLine x = Setup.booked(2);
        x.undo();
        s.due("one that was undone", x.ticket(1, 0), UNKNOWN);
    }

    private static void ticketWhat() {
        Sentence s = new Sentence("Promise 26", "Returns the number; UNKNOWN; BAD_VALUE.");
        for (int what : new int[] {Integer.MIN_VALUE, -1, 14, 15, Integer.MAX_VALUE}) {
            s.unchanged("ticket(0, " + what + ")", () -> Setup.booked(1), x -> x.ticket(0, what), BAD_VALUE);
        }
    }

    private static void ticketNumbers() {
        Sentence s = new Sentence("Promise 26", "what: 0 for the value, 1 for the class, 2 for the station from which, "
            + "3 for the station to which, 4 for the laps that are left, 5 for what was paid, 6 for its state");
        MercuryLine x = Setup.twoLines();
        x.setHeat(1, 10);
        x.book(0, 1, 0, 11, 1);
        x.book(65535, 3, 11, 0, 9);
        s.ticket("the least", x, 0, 0, 1, 0, 11, 1, 10, 0);
        s.ticket("the greatest", x, 1, 65535, 3, 11, 0, 9, 295, 0);
        x.tick(9);
        s.ticket("eight laps are used", x, 1, 65535, 3, 11, 0, 1, 295, 1);
        x.tick(1);
        s.ticket("no lap is left", x, 1, 65535, 3, 11, 0, 0, 295, 6);
    }

    private static void ticketLineAndSlot() {
        Sentence s = new Sentence("Promise 26", "7 for the line on which it rides or for whose hall it waits "
            + "(NONE if it does neither), 8 for its slot (NONE if it does not ride)");
        int[][] due = {{NONE, NONE}, {0, 0}, {0, NONE}, {NONE, NONE}, {NONE, NONE}, {NONE, NONE}, {NONE, NONE},
            {NONE, NONE}, {NONE, NONE}};
        for (int state = 0; state <= 8; state++) {
            MercuryLine x = Setup.inState(state);
            s.due("line in state " + state, x.ticket(0, 7), due[state][0]);
            s.due("slot in state " + state, x.ticket(0, 8), due[state][1]);
        }
        MercuryLine x = Setup.oneLine(8, 7, 0);
        x.addStation(1, 7);
        x.addStation(1, 3);
        x.book(1, 1, 0, 1, 9);
        x.book(1, 1, 11, 10, 9);
        x.tick(1);
        s.due("the last slot", x.ticket(0, 8), 7);
        s.due("on line 1", x.ticket(1, 7), 1);
        s.due("its slot", x.ticket(1, 8), 3);
        x.tick(3);
        s.due("the slot goes with the word", x.ticket(0, 8), 7);
    }

    private static void ticketTicks() {
        Sentence s = new Sentence("Promise 26", "9 for the tick in which it was booked, "
            + "10 for the tick in which it first boarded (NONE if it has not), "
            + "11 for the tick in which it ended (NONE if it has not)");
        int[][] due = {{0, NONE, NONE}, {0, 0, NONE}, {0, 0, NONE}, {0, 0, 2}, {0, 0, 2}, {0, 0, 1}, {0, 0, 2},
            {0, 0, 1}, {0, NONE, 0}};
        for (int state = 0; state <= 8; state++) {
            MercuryLine x = Setup.inState(state);
            for (int i = 0; i < 3; i++) {
                s.due("what " + (9 + i) + " in state " + state, x.ticket(0, 9 + i), due[state][i]);
            }
        }
        MercuryLine x = Setup.shortLines();
        x.tick(3);
        x.book(1, 1, 11, 1, 1);
        x.tick(4);
        s.due("booked", x.ticket(0, 9), 3);
        s.due("first boarded, not later at the junction", x.ticket(0, 10), 3);
        s.due("it rides its second line", x.ticket(0, 7), 0);
        s.due("not ended", x.ticket(0, 11), NONE);
    }

    private static void ticketEnds() {
        Sentence s = new Sentence("Promise 26", "12 for the station at which it ended (NONE if it has not, or did not "
            + "end at one: drained and cancelled ones), 13 for the ticket by which it was shoved out "
            + "(NONE if it was not)");
        int[] stations = {NONE, NONE, NONE, 1, 0, 0, 0, NONE, NONE};
        for (int state = 0; state <= 8; state++) {
            MercuryLine x = Setup.inState(state);
            s.due("station in state " + state, x.ticket(0, 12), stations[state]);
            s.due("by whom in state " + state, x.ticket(0, 13), state == 5 ? 1 : NONE);
        }
        s.due("the one that shoved", Setup.inState(5).ticket(1, 13), NONE);
        MercuryLine x = Setup.inState(1);
        x.cancel(0);
        s.due("cancelled as it rode", x.ticket(0, 12), NONE);
        MercuryLine y = Setup.inState(2);
        y.cancel(0);
        s.due("cancelled in a hall", y.ticket(0, 12), NONE);
        MercuryLine z = Setup.shortLines();
        z.book(1, 1, 11, 10, 1);
        z.tick(3);
        s.due("on line 1", z.ticket(0, 12), 10);
    }

    private static MercuryLine oneOrder() {
        MercuryLine x = Setup.booked(1);
        x.order(0, 9);
        return x;
    }

    private static void orderedOrder() {
        Sentence s = new Sentence("Promise 27", "- order: an order");
        Supplier<MercuryLine> one = BoundaryToldTest::oneOrder;
        for (int order : new int[] {Integer.MIN_VALUE, -1, 1, 3, 4, Integer.MAX_VALUE}) {
            s.unchanged("ordered(" + order + ", 0)", one, x -> x.ordered(order, 0), UNKNOWN);
            s.unchanged("ordered(" + order + ", 7)", one, x -> x.ordered(order, 7), UNKNOWN);
        }
        s.unchanged("of a new object", MercuryLine::new, x -> x.ordered(0, 0), UNKNOWN);
        MercuryLine x = oneOrder();
        x.order(0, 1);
        x.order(0, 2);
        x.order(0, 3);
        s.due("the last of four", x.ordered(3, 0), 3);
        s.due("behind it", x.ordered(4, 0), UNKNOWN);
        x.undo();
        s.due("one that was undone", x.ordered(3, 0), UNKNOWN);
    }

    private static void orderedWhat() {
        Sentence s = new Sentence("Promise 27", "Returns the number; UNKNOWN; BAD_VALUE.");
        Supplier<MercuryLine> one = BoundaryToldTest::oneOrder;
        for (int what : new int[] {Integer.MIN_VALUE, -1, 7, 8, Integer.MAX_VALUE}) {
            s.unchanged("ordered(0, " + what + ")", one, x -> x.ordered(0, what), BAD_VALUE);
        }
    }

    private static void orderedNumbers() {
        Sentence s = new Sentence("Promise 27", "what: 0 for its period, 1 for the tick in which it was given, "
            + "2 for the tickets that it has booked, 3 for how often it was skipped, 4 for whether it is ended "
            + "(1, otherwise 0), 5 for the value, 6 for the station from which");
        MercuryLine x = Setup.booked(36);
        x.book(65535, 2, 11, 0, 9);
        x.tick(4);
        x.order(36, 50);
        x.order(0, 1);
        s.ordered("given", x, 0, 50, 4, 0, 0, 0, 65535, 11);
        x.tick(51);
        s.ordered("period 50: in tick 4, and skipped in tick 54", x, 0, 50, 4, 1, 1, 0, 65535, 11);
        s.ordered("period 1: two, and 49 times skipped", x, 1, 1, 4, 2, 49, 0, 0, 0);
        x.endOrder(1);
        s.ordered("ended", x, 1, 1, 4, 2, 49, 1, 0, 0);
        x.undo();
        s.ordered("undone", x, 1, 1, 4, 2, 49, 0, 0, 0);
    }

    private static void priceRange() {
        Sentence s = new Sentence("Promise 28",
            "- kind: the class, 1 to 3 - laps: 1 to 9 Returns the price; BAD_VALUE.");
        for (int kind : new int[] {Integer.MIN_VALUE, -1, 0, 4, Integer.MAX_VALUE}) {
            s.unchanged("price(" + kind + ", 1)", MercuryLine::new, x -> x.price(kind, 1), BAD_VALUE);
            s.unchanged("price(" + kind + ", 0)", MercuryLine::new, x -> x.price(kind, 0), BAD_VALUE);
        }
        for (int laps : new int[] {Integer.MIN_VALUE, -1, 0, 10, Integer.MAX_VALUE}) {
            s.unchanged("price(1, " + laps + ")", MercuryLine::new, x -> x.price(1, laps), BAD_VALUE);
            s.unchanged("price(3, " + laps + ")", MercuryLine::new, x -> x.price(3, laps), BAD_VALUE);
        }
        s.unchanged("price(1, 1)", MercuryLine::new, x -> x.price(1, 1), 10);
        s.unchanged("price(3, 9)", MercuryLine::new, x -> x.price(3, 9), 295);
    }

    private static void priceOfNow() {
        Sentence s = new Sentence("Promise 28", "Tells what a ticket would cost now.");
        MercuryLine x = Setup.booked(40);
        x.setFare(99);
        s.due("with the fare 99, though none can be booked", x.price(3, 9), 2698);
        x.setFare(1);
        s.due("with the fare 1", x.price(1, 1), 1);
        x.undo();
        s.due("undone", x.price(1, 1), 99);
    }

    private static void eventBack() {
        Sentence s = new Sentence("Promise 32", "back: 0 for the latest event, 1 for the one before, and so on");
        MercuryLine x = pausing(12);
        for (int back = 0; back < 12; back++) {
            s.due("back " + back, x.event(back, 4), 11 - back);
        }
        for (int back : new int[] {12, 13, 1000, Integer.MAX_VALUE}) {
            s.unchanged("event(" + back + ", 4)", () -> pausing(60), y -> y.event(back, 4), NONE);
        }
        for (int back : new int[] {-1, -12, Integer.MIN_VALUE}) {
            s.unchanged("event(" + back + ", 4)", () -> pausing(60), y -> y.event(back, 4), BAD_VALUE);
        }
        s.unchanged("none so far", MercuryLine::new, y -> y.event(0, 0), NONE);
        s.unchanged("back -1, none so far", MercuryLine::new, y -> y.event(-1, 0), BAD_VALUE);
        s.unchanged("one so far", () -> pausing(1), y -> y.event(1, 0), NONE);
    }

    private static void eventWhat() {
        Sentence s = new Sentence("Promise 32",
            "Returns the number; BAD_VALUE (back is negative, or what); NONE if there is none.");
        for (int what : new int[] {Integer.MIN_VALUE, -1, 5, 6, Integer.MAX_VALUE}) {
            s.unchanged("event(0, " + what + ")", () -> pausing(1), x -> x.event(0, what), BAD_VALUE);
            s.unchanged("event(1, " + what + ")", () -> pausing(1), x -> x.event(1, what), BAD_VALUE);
            s.unchanged("event(0, " + what + ") of none", MercuryLine::new, x -> x.event(0, what), BAD_VALUE);
        }
        s.event("what 0 to 4", pausing(1), 0, 6, NONE, 1, NONE, 0);
        Sentence none = new Sentence("Promise 32",
            "what: 0 for its kind, 1 for its ticket (NONE for 6 and 7), 2 for its line, "
            + "3 for its station as 10 * line + number (NONE for 6, 7 and 8), 4 for its tick");
        none.event("drained: a ticket, but no station", Setup.inState(7), 0, 8, 0, 0, NONE, 1);
        none.event("of the last stations", lastStations(), 0, 0, 1, 1, 15, 0);
        none.event("of the last stations", lastStations(), 1, 0, 0, 0, 5, 0);
    }

    private static MercuryLine lastStations() {
        MercuryLine x = Setup.oneLine(8, 0, 1, 2, 3, 4, 5);
        for (int offset = 0; offset < 6; offset++) {
            x.addStation(1, offset);
        }
        x.book(1, 1, 5, 0, 1);
        x.book(2, 1, 15, 10, 1);
        x.tick(1);
        return x;
    }

    private static void eventUndone() {
        Sentence s = new Sentence("Promise 32", "Looks back at the log.");
        MercuryLine x = pausing(13);
        x.tick(13);
        s.due("the latest", x.event(0, 4), 25);
        x.undo();
        for (int back = 0; back < 12; back++) {
            s.event("undone", x, back, 6, NONE, 1, NONE, 12 - back);
        }
        x.undo();
        s.event("none is left", x, 0, NONE, NONE, NONE, NONE, NONE);
    }

    private static void countWhat() {
        Sentence s = new Sentence("Promise 33", "Returns the number; BAD_VALUE.");
        for (int what : FAR) {
            s.unchanged("count(" + what + ")", MercuryLine::new, x -> x.count(what), BAD_VALUE);
            s.unchanged("count(" + what + ")", () -> Setup.inState(3), x -> x.count(what), BAD_VALUE);
        }
        s.due("count(0)", new MercuryLine().count(0), 0);
        s.due("count(20)", Setup.typed(new MercuryLine(), "abc").count(20), 3);
    }

    private static void countStates() {
        Sentence s = new Sentence("Promise 33",
            "what: 0 for the number of the tick, 1 for the tickets there have been, "
            + "2 to 10 for tickets in the states 0 to 8");
        int[] ticks = {0, 1, 3, 3, 3, 2, 3, 1, 0};
        for (int state = 0; state <= 8; state++) {
            MercuryLine x = Setup.inState(state);
            s.due("the number of the tick, state " + state, x.count(0), ticks[state]);
            s.due("tickets, state " + state, x.count(1), state == 5 ? 2 : 1);
            for (int what = 2; what <= 10; what++) {
                int due = what == 2 + state || state == 5 && what == 3 ? 1 : 0;
                s.due("count(" + what + ") in state " + state, x.count(what), due);
            }
        }
        MercuryLine x = Setup.booked(40);
        s.due("40 there have been", x.count(1), 40);
        s.due("40 wait", x.count(2), 40);
        x.tick(60);
        s.due("40 there have been", x.count(1), 40);
        s.due("40 have arrived", x.count(5), 40);
        s.due("none waits", x.count(2), 0);
    }

    private static void countAccounts() {
        Sentence s = new Sentence("Promise 33", "11 for all that was paid, 12 for all that was earned, "
            + "13 for all that was refunded, 14 for all that is held, 15 for the fare, 16 for the patience, "
            + "17 for the orders there have been");
        int[][] due = {{20, 0, 0, 20}, {20, 0, 0, 20}, {20, 0, 0, 20}, {20, 20, 0, 0}, {20, 0, 20, 0},
            {60, 0, 20, 40}, {20, 0, 20, 0}, {20, 0, 20, 0}, {20, 0, 20, 0}};
        for (int state = 0; state <= 8; state++) {
            MercuryLine x = Setup.inState(state);
            for (int i = 0; i < 4; i++) {
                s.due("count(" + (11 + i) + ") in state " + state, x.count(11 + i), due[state][i]);
            }
        }
        MercuryLine x = Setup.twoLines();
        x.setFare(99);
        for (int i = 0; i < 40; i++) {
            x.book(i, 3, 0, 1, 9);
        }
        s.due("the most that can be paid", x.count(11), 40 * 2698);
        s.due("held", x.count(14), 40 * 2698);
        x.setPatience(50);
        for (int i = 0; i < 4; i++) {
            x.order(0, 1);
        }
        s.due("fare", x.count(15), 99);
        s.due("patience", x.count(16), 50);
        s.due("orders", x.count(17), 4);
        x.endOrder(0);
        s.due("ended ones count, too", x.count(17), 4);
    }

    private static void countArrivedValues() {
        Sentence s = new Sentence("Promise 33", "18 for the exclusive or of the values of all words that have arrived");
        MercuryLine x = Setup.twoLines();
        int[] values = {65535, 1, 65535, 0, 1, 1};
        int[] due = {65535, 65534, 1, 1, 0, 1};
        s.due("none has arrived", x.count(18), 0);
        for (int value : values) {
            x.book(value, 1, 0, 1, 1);
        }
        x.tick(4);
        s.due("none has arrived", x.count(18), 0);
        for (int i = 0; i < due.length; i++) {
            x.tick(1);
            s.due("behind " + (i + 1), x.count(18), due[i]);
        }
        for (int state : new int[] {0, 1, 2, 4, 5, 6, 7, 8}) {
            s.due("not in state " + state, Setup.inState(state).count(18), 0);
        }
        s.due("in state 3", Setup.inState(3).count(18), 5);
    }

    private static void countHistoryAndText() {
        Sentence s = new Sentence("Promise 33", "19 for the states in the history, 20 for the length of the text");
        MercuryLine x = new MercuryLine();
        for (int acts = 0; acts <= 6; acts++) {
            s.due("states after " + acts, x.count(19), Math.min(acts, 4));
            s.due("text after " + acts, x.count(20), acts);
            x.setFare(acts + 1);
            x.type('1');
        }
        for (int i = 8; i <= 70; i++) {
            x.type('1');
            s.due("text", x.count(20), Math.min(i, 60));
        }
        x.clearText();
        s.due("emptied", x.count(20), 0);
        s.due("states", x.count(19), 4);
    }
}
