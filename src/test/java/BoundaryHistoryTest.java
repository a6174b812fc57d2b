import java.util.List;
import java.util.function.Supplier;
import java.util.function.ToIntFunction;

/** Boundary cases of the parts HISTORY and ERRORS, and of the promises 18 to 20. */
public final class BoundaryHistoryTest {
    private static final int UNKNOWN = MercuryLine.UNKNOWN;
    private static final int BAD_VALUE = MercuryLine.BAD_VALUE;
    private static final int FULL = MercuryLine.FULL;
    private static final int NOT_POSSIBLE = MercuryLine.NOT_POSSIBLE;
    private static final int NONE = MercuryLine.NONE;
    private static final String SHORT = "1,1,00>01*1";
    private static final int WAYS = 7;

    public static void main(String[] args) {
        fourStates();
        fifthState();
        everyActRecords();
        actsThatAnswerNothing();
        oneSnapshot();
        textIsNoPartOfAState();
        historyIsNoPartOfAState();
        snapshotIsNoPartOfAState();
        everythingElseIs();
        othersInTheirPlace();
        orderOfTheChecks();
        noneIsAnsweredLast();
        refusedCallsChangeNothing();
        noneChangesNothing();
        constants();
        stationsAsOneNumber();
        undoReturns();
        undoOfNothing();
        undoIsNoAct();
        keepInPlace();
        keepReturns();
        restoreStays();
        restoreIsAnAct();
        restoreReturns();
        Check.end("BoundaryHistoryTest");
    }

    /** As many acts as a number on a new object: the fare of the last of them is that number. */
    private static MercuryLine fares(int acts) {
        MercuryLine x = new MercuryLine();
        for (int fare = 1; fare <= acts; fare++) {
            x.setFare(fare);
        }
        return x;
    }

    private static void fourStates() {
        Sentence s = new Sentence("HISTORY", "A history of at most 4 states is kept");
        for (int acts = 0; acts <= 4; acts++) {
            MercuryLine x = fares(acts);
            s.due(acts + " acts", x.count(19), acts);
            for (int left = acts - 1; left >= 0; left--) {
                s.due("states that are left", x.undo(), left);
                s.due("the fare then", x.count(15), left == 0 ? 10 : left);
                s.due("states told", x.count(19), left);
            }
            s.due("no more", x.undo(), NONE);
            s.due("as it was made", x.count(15), 10);
        }
    }

    private static void fifthState() {
        Sentence s = new Sentence("HISTORY", "when one more is recorded, the oldest one is dropped");
        for (int acts = 5; acts <= 9; acts++) {
            MercuryLine x = fares(acts);
            s.due(acts + " acts", x.count(19), 4);
            for (int left = 3; left >= 0; left--) {
                s.due("states that are left", x.undo(), left);
                s.due("the fare then", x.count(15), acts - 4 + left);
            }
            s.due("the ones before are dropped", x.undo(), NONE);
            s.due("the fare stays", x.count(15), acts - 4);
        }
        MercuryLine x = fares(6);
        x.undo();
        x.undo();
        x.setFare(20);
        s.due("three again", x.count(19), 3);
        x.setFare(21);
        x.setFare(22);
        s.due("four again", x.count(19), 4);
        for (int fare : new int[] {21, 20, 4, 3}) {
            x.undo();
            s.due("the fare then", x.count(15), fare);
        }
        s.due("no more", x.undo(), NONE);
    }

    /** Two lines with a rider, a call, an order, a text and a snapshot, and no history. */
    private static MercuryLine ready() {
        MercuryLine x = Setup.twoLines();
        x.book(5, 1, 0, 11, 9);
        x.book(6, 1, 0, 11, 9);
        x.call(1, 0);
        x.order(1, 50);
        x.tick(1);
        Setup.typed(x, SHORT);
        x.keep();
        x.setFare(9);
        for (int i = 0; i < 4; i++) {
            x.setPatience(i + 4);
        }
        for (int i = 0; i < 4; i++) {
            x.undo();
        }
        return x;
    }

    private static void everyActRecords() {
        Sentence s = new Sentence("HISTORY", "Each call of a method that is described as an act, and returns no error "
            + "and not NONE, records the state that was before it.");
        s.due("no history before", ready().count(19), 0);
        Supplier<MercuryLine> start = BoundaryHistoryTest::ready;
        s.act("build", start, x -> x.build(1, 9), 8);
        s.act("addStation", start, x -> x.addStation(0, 2), 2);
        s.act("setHeat", start, x -> x.setHeat(0, -3), 3);
        s.act("setFare", start, x -> x.setFare(11), 9);
        s.act("setPatience", start, x -> x.setPatience(1), 3);
        s.act("drain", start, x -> x.drain(0), 1);
        s.act("book", start, x -> x.book(1, 1, 0, 1, 1), 3);
        s.act("cancel", start, x -> x.cancel(1), 90);
        s.act("call", start, x -> x.call(1, 5), 2);
        s.act("callBack", start, x -> x.callBack(1), 0);
        s.act("order", start, x -> x.order(0, 5), 1);
        s.act("endOrder", start, x -> x.endOrder(0), 1);
        s.act("tick", start, x -> x.tick(2), 0);
        s.act("readTickets", start, MercuryLine::readTickets, 9);
        s.act("restore", start, MercuryLine::restore, 1);
    }

    private static void actsThatAnswerNothing() {
        Sentence s = new Sentence("HISTORY", "and returns no error and not NONE, records the state that was before it");
        s.act("addStation answers 0", MercuryLine::new, x -> x.addStation(0, 0), 0);
        s.act("book answers 0", Setup::twoLines, x -> x.book(1, 1, 0, 1, 1), 0);
        s.act("order answers 0", () -> Setup.booked(1), x -> x.order(0, 1), 0);
        s.act("tick answers 0", MercuryLine::new, x -> x.tick(1), 0);
        s.act("callBack answers 0", BoundaryHistoryTest::ready, x -> x.callBack(1), 0);
        s.act("setPatience answers 0", () -> {
            MercuryLine x = new MercuryLine();
            x.setPatience(0);
            return x;
        }, x -> x.setPatience(7), 0);
        s.act("restore answers 0", () -> {
            MercuryLine x = new MercuryLine();
            x.keep();
            return x;
        }, MercuryLine::restore, 0);
    }

    private static void oneSnapshot() {
        Sentence s = new Sentence("HISTORY", "There is one snapshot, empty at first.");
        s.unchanged("at first", MercuryLine::new, MercuryLine::restore, NONE);
        s.unchanged("behind some acts", () -> Setup.inState(3), MercuryLine::restore, NONE);
        MercuryLine x = fares(1);
        x.keep();
        x.setFare(2);
        x.keep();
        x.setFare(3);
        s.due("restored", x.restore(), 0);
        s.due("the second alone is there", x.count(15), 2);
    }

    private static void textIsNoPartOfAState() {
        Sentence s = new Sentence("HISTORY", "A state is everything but the text, the history and the snapshot.");
        MercuryLine x = Setup.typed(Setup.twoLines(), "1,");
        x.keep();
        x.setFare(20);
        Setup.typed(x, SHORT.substring(2));
        x.undo();
        s.due("undo leaves the text", x.count(20), 11);
        x.restore();
        s.due("restore leaves the text", x.count(20), 11);
        s.due("it is the one that was typed", x.readTickets(), 10);
        x.clearText();
        x.undo();
        s.due("undo brings no text back", x.count(20), 0);
        x.restore();
        s.due("nor does restore", x.count(20), 0);
    }

    private static void historyIsNoPartOfAState() {
        Sentence s = new Sentence("HISTORY", "A state is everything but the text, the history and the snapshot.");
        MercuryLine x = fares(1);
        x.keep();
        x.setFare(2);
        s.due("two acts", x.count(19), 2);
        x.restore();
        s.due("restore adds to the history, and brings none back", x.count(19), 3);
        s.due("undone", x.undo(), 2);
        s.due("the fare before it", x.count(15), 2);
        s.due("undone", x.undo(), 1);
        s.due("undone", x.undo(), 0);
        s.due("the fare at first", x.count(15), 10);
        x.restore();
        s.due("one state", x.count(19), 1);
        s.due("the fare of the snapshot", x.count(15), 1);
    }

    private static void snapshotIsNoPartOfAState() {
        Sentence s = new Sentence("HISTORY", "A state is everything but the text, the history and the snapshot.");
        MercuryLine x = fares(1);
        x.setFare(2);
        x.keep();
        x.undo();
        x.undo();
        s.due("undone to the first", x.count(15), 10);
        s.due("the snapshot is there still", x.restore(), 0);
        s.due("its fare", x.count(15), 2);
        x.setFare(5);
        x.keep();
        x.restore();
        x.undo();
        x.undo();
        s.due("undone", x.count(15), 2);
        x.restore();
        s.due("undo brought no older snapshot back", x.count(15), 5);
    }

    private static void everythingElseIs() {
        Sentence s = new Sentence("HISTORY", "undo() removes and restores the latest one.");
        List<ToIntFunction<MercuryLine>> acts = List.of(x -> x.build(1, 9), x -> x.addStation(0, 1),
            x -> x.setHeat(0, 7), x -> x.setFare(99), x -> x.setPatience(0), x -> x.call(0, 5), x -> x.callBack(1),
            x -> x.order(0, 1), x -> x.cancel(1), x -> x.tick(60), x -> x.endOrder(1), x -> x.drain(1));
        for (int first = 0; first < acts.size(); first++) {
            int from = first;
            Supplier<MercuryLine> start = BoundaryHistoryTest::ready;
            s.same("four acts from " + first + " on, and undo() for each", Told.state(start), Told.state(() -> {
                MercuryLine x = ready();
                for (int i = 0; i < 4; i++) {
                    acts.get((from + i) % acts.size()).applyAsInt(x);
                }
                while (x.undo() > 0) {
                    x.count(19);
                }
                return x;
            }));
        }
    }

    /**
     * Tickets, orders, stations and calls that bear the same numbers as others did before: undo() and
     * restore() lead back to those others, whatever came in their place.
     */
    private static void othersInTheirPlace() {
        Sentence s = new Sentence("HISTORY", "A state is everything but the text, the history and the snapshot.");
        MercuryLine shoved = went(paused(), 0);
        s.ticket("one was shoved out", shoved, 2, 1, 1, 11, 0, 5, 90, 5, NONE, NONE, 2, 2, 6, 11, 6);
        s.ticket("one was called off", shoved, 3, 5, 1, 10, 11, 9, 90, 4, NONE, NONE, 2, 2, 3, 10, NONE);
        for (int way = 0; way < WAYS; way++) {
            for (int other = 0; other < WAYS; other++) {
                int first = way;
                int second = other;
                String ways = "way " + way + ", and then " + other;
                List<String> due = Told.state(() -> went(paused(), first));
                s.same(ways + ", restore()", due, Told.state(() -> restored(first, second)));
                s.same(ways + ", undo()", due, Told.state(() -> undone(first, second)));
            }
        }
    }

    /**
     * Short lines that pause for ever, a patience of 2, a call for 5 at the junction of line 1, and an
     * order of class 2 at station 11, which books in the ticks 4 and 8. Two ticks have passed.
     */
    private static MercuryLine paused() {
        MercuryLine x = Setup.shortLines();
        x.book(3, 2, 11, 10, 1);
        x.cancel(0);
        x.order(0, 4);
        x.setPatience(2);
        x.setHeat(0, 10);
        x.setHeat(1, 10);
        x.call(10, 5);
        x.tick(2);
        return x;
    }

    private static void read(MercuryLine x, String text) {
        x.clearText();
        Setup.typed(x, text);
        x.readTickets();
    }

    /** One of the ways to go on, each of three acts. */
    private static MercuryLine went(MercuryLine x, int way) {
        switch (way) {
            case 0:
                read(x, "1,1,11>00*9;5,1,10>11*9;8,1,01>00*9;2,2,00>01*9");
                x.tick(6);
                read(x, "4,3,01>00*9");
                return x;
            case 1:
                x.tick(9);
                read(x, "5,3,10>11*1;6,2,10>11*2;1,1,00>01*9;3,3,01>11*7");
                x.tick(2);
                return x;
            case 2:
                x.book(70, 2, 0, 1, 4);
                x.order(2, 1);
                x.tick(5);
                return x;
            case 3:
                x.tick(1);
                x.book(9, 3, 11, 1, 1);
                x.order(2, 50);
                return x;
            case 4:
                x.addStation(0, 3);
                x.book(5, 1, 2, 0, 2);
                x.cancel(2);
                return x;
            case 5:
                x.addStation(1, 1);
                x.call(12, 7);
                x.call(12, 8);
                return x;
            default:
                x.setFare(99);
                x.addStation(0, 1);
                x.call(2, 65535);
                return x;
        }
    }

    private static MercuryLine restored(int way, int other) {
        MercuryLine x = went(paused(), way);
        x.keep();
        for (int i = 0; i < 3; i++) {
            x.undo();
        }
        went(x, other);
        x.restore();
        return x;
    }

    /** The snapshot is the beginning: to restore it is the first of the four acts that are undone. */
    private static MercuryLine undone(int way, int other) {
        MercuryLine x = paused();
        x.keep();
        went(x, way);
        x.restore();
        went(x, other);
        for (int i = 0; i < 4; i++) {
            x.undo();
        }
        return x;
    }

    /** A rider on line 0, three calls at 1, four orders, the first of them ended, and 40 tickets. */
    private static MercuryLine crowded() {
        MercuryLine x = Setup.booked(39);
        x.tick(1);
        for (int value = 0; value < 3; value++) {
            x.call(1, value);
        }
        for (int order = 0; order < 4; order++) {
            x.order(order, 50);
        }
        x.endOrder(0);
        x.cancel(1);
        x.book(1, 1, 0, 1, 1);
        for (int offset = 1; offset < 6; offset++) {
            x.addStation(0, offset);
        }
        return Setup.typed(x, SHORT + ";1,1,00>00*1");
    }

    private static void orderOfTheChecks() {
        Sentence s = new Sentence("ERRORS",
            "Where several errors can apply, the order of the @return line is the order of the checks.");
        Supplier<MercuryLine> x = BoundaryHistoryTest::crowded;
        s.unchanged("build: no line, slots", x, y -> y.build(2, 1), UNKNOWN);
        s.unchanged("build: slots, a rider and an offset", x, y -> y.build(0, 1), BAD_VALUE);
        s.unchanged("addStation: no line, offset", x, y -> y.addStation(2, 8), UNKNOWN);
        s.unchanged("addStation: offset, six", x, y -> y.addStation(0, 8), BAD_VALUE);
        s.unchanged("addStation: the same offset, six", x, y -> y.addStation(0, 0), NOT_POSSIBLE);
        s.unchanged("addStation: six", x, y -> y.addStation(0, 7), FULL);
        s.unchanged("setHeat: no line, heat", x, y -> y.setHeat(-1, 11), UNKNOWN);
        s.unchanged("book: no station, value, 40", x, y -> y.book(-1, 1, 0, 12, 1), UNKNOWN);
        s.unchanged("book: no station, the same, 40", x, y -> y.book(1, 1, 12, 12, 1), UNKNOWN);
        s.unchanged("book: value, 40", x, y -> y.book(-1, 1, 0, 1, 1), BAD_VALUE);
        s.unchanged("book: 40", x, y -> y.book(1, 1, 0, 1, 1), FULL);
        s.unchanged("call: no station, value", x, y -> y.call(12, -1), UNKNOWN);
        s.unchanged("call: value, three", x, y -> y.call(1, -1), BAD_VALUE);
        s.unchanged("call: three", x, y -> y.call(1, 1), FULL);
        s.unchanged("order: no ticket, period, four", x, y -> y.order(40, 0), UNKNOWN);
        s.unchanged("order: period, four", x, y -> y.order(0, 0), BAD_VALUE);
        s.unchanged("order: four", x, y -> y.order(0, 1), FULL);
        s.unchanged("readTickets: the same station, 40", x, MercuryLine::readTickets, BAD_VALUE);
        s.unchanged("line: no line, what", x, y -> y.line(2, 9), UNKNOWN);
        s.unchanged("slot: no line, slot", x, y -> y.slot(2, 8), UNKNOWN);
        s.unchanged("station: no station, what", x, y -> y.station(12, 9), UNKNOWN);
        s.unchanged("waiting: no station, place", x, y -> y.waiting(12, -1), UNKNOWN);
        s.unchanged("calls: no station, place", x, y -> y.calls(12, -1), UNKNOWN);
        s.unchanged("ticket: no ticket, what", x, y -> y.ticket(40, 14), UNKNOWN);
        s.unchanged("ordered: no order, what", x, y -> y.ordered(4, 7), UNKNOWN);
        s.unchanged("fate: no ticket, what", x, y -> y.fate(40, 4), UNKNOWN);
        s.unchanged("fate: what, it has ended", x, y -> y.fate(1, 4), BAD_VALUE);
        s.unchanged("fate: it has ended", x, y -> y.fate(1, 0), NOT_POSSIBLE);
        s.unchanged("slotIn: no station, ticks", x, y -> y.slotIn(12, -1), UNKNOWN);
        s.unchanged("lapsNeeded: no station, the same", x, y -> y.lapsNeeded(12, 12), UNKNOWN);
        s.unchanged("lapsNeeded: no station, another line", x, y -> y.lapsNeeded(0, 12), UNKNOWN);
    }

    private static void noneIsAnsweredLast() {
        Sentence s = new Sentence("ERRORS", "NONE is no error; it is returned only if no error applies.");
        Supplier<MercuryLine> x = BoundaryHistoryTest::crowded;
        s.unchanged("build: a rider, and as many slots", x, y -> y.build(0, 8), NOT_POSSIBLE);
        s.unchanged("build: as many slots", x, y -> y.build(1, 8), NONE);
        s.unchanged("setHeat: no line, and heat 0", x, y -> y.setHeat(2, 0), UNKNOWN);
        s.unchanged("drain: no line, and nobody rides it", x, y -> y.drain(2), UNKNOWN);
        s.unchanged("callBack: no station, and it has no call", x, y -> y.callBack(12), UNKNOWN);
        s.unchanged("endOrder: no order", x, y -> y.endOrder(4), UNKNOWN);
        s.unchanged("waiting: place -1 where nobody waits", x, y -> y.waiting(11, -1), BAD_VALUE);
        s.unchanged("calls: place -1 where there is none", x, y -> y.calls(11, -1), BAD_VALUE);
        s.unchanged("event: what 5, and far back", x, y -> y.event(12, 5), BAD_VALUE);
        s.unchanged("event: back -1", x, y -> y.event(-1, 0), BAD_VALUE);
        s.unchanged("slot: behind the last", x, y -> y.slot(1, 8), BAD_VALUE);
    }

    private static void refusedCallsChangeNothing() {
        Sentence s = new Sentence("ERRORS", "A call that returns an error or NONE changes nothing.");
        Supplier<MercuryLine> x = BoundaryHistoryTest::crowded;
        s.unchanged("build", x, y -> y.build(0, 9), NOT_POSSIBLE);
        s.unchanged("setHeat", x, y -> y.setHeat(0, 11), BAD_VALUE);
        s.unchanged("setFare", x, y -> y.setFare(100), BAD_VALUE);
        s.unchanged("setPatience", x, y -> y.setPatience(51), BAD_VALUE);
        s.unchanged("drain", x, y -> y.drain(2), UNKNOWN);
        s.unchanged("cancel", x, y -> y.cancel(1), NOT_POSSIBLE);
        s.unchanged("cancel", x, y -> y.cancel(40), UNKNOWN);
        s.unchanged("callBack", x, y -> y.callBack(12), UNKNOWN);
        s.unchanged("endOrder", x, y -> y.endOrder(-1), UNKNOWN);
        s.unchanged("tick", x, y -> y.tick(0), BAD_VALUE);
        s.unchanged("price", x, y -> y.price(4, 1), BAD_VALUE);
        s.unchanged("count", x, y -> y.count(21), BAD_VALUE);
        s.unchanged("readTickets, a fault", () -> Setup.typed(crowded(), "0"), MercuryLine::readTickets, -123);
        s.unchanged("readTickets, no room", () -> {
            MercuryLine y = crowded();
            y.clearText();
            return Setup.typed(y, SHORT);
        }, MercuryLine::readTickets, FULL);
    }

    private static void noneChangesNothing() {
        Sentence s = new Sentence("ERRORS", "A call that returns an error or NONE changes nothing.");
        Supplier<MercuryLine> x = BoundaryHistoryTest::crowded;
        s.unchanged("build", x, y -> y.build(1, 8), NONE);
        s.unchanged("setHeat", x, y -> y.setHeat(0, 0), NONE);
        s.unchanged("setFare", x, y -> y.setFare(10), NONE);
        s.unchanged("setPatience", x, y -> y.setPatience(3), NONE);
        s.unchanged("drain", x, y -> y.drain(1), NONE);
        s.unchanged("callBack", x, y -> y.callBack(0), NONE);
        s.unchanged("endOrder", x, y -> y.endOrder(0), NONE);
        s.unchanged("restore", x, MercuryLine::restore, NONE);
        s.unchanged("undo", MercuryLine::new, MercuryLine::undo, NONE);
        s.unchanged("slot", x, y -> y.slot(0, 7), NONE);
        s.unchanged("waiting", x, y -> y.waiting(11, 0), NONE);
        s.unchanged("calls", x, y -> y.calls(1, 3), NONE);
        s.unchanged("event", x, y -> y.event(12, 0), NONE);
    }

    private static void constants() {
        Sentence s = new Sentence("ERRORS", "UNKNOWN = -1: There is no such line, station, ticket or order.");
        s.due("UNKNOWN", UNKNOWN, -1);
        s.unchanged("no such line", BoundaryHistoryTest::ready, x -> x.line(2, 0), -1);
        s.unchanged("no such station", BoundaryHistoryTest::ready, x -> x.station(2, 0), -1);
        s.unchanged("no such ticket", BoundaryHistoryTest::ready, x -> x.ticket(3, 0), -1);
        s.unchanged("no such order", BoundaryHistoryTest::ready, x -> x.ordered(1, 0), -1);
        Sentence bad = new Sentence("ERRORS", "BAD_VALUE = -2: Another argument is out of range.");
        bad.due("BAD_VALUE", BAD_VALUE, -2);
        bad.unchanged("what 9", BoundaryHistoryTest::ready, x -> x.line(0, 9), -2);
        Sentence full = new Sentence("ERRORS", "FULL = -3: There is no more room.");
        full.due("FULL", FULL, -3);
        full.unchanged("41 tickets", BoundaryHistoryTest::crowded, x -> x.book(1, 1, 0, 1, 1), -3);
        Sentence not = new Sentence("ERRORS", "NOT_POSSIBLE = -4: This is not possible.");
        not.due("NOT_POSSIBLE", NOT_POSSIBLE, -4);
        not.unchanged("a rider", BoundaryHistoryTest::crowded, x -> x.build(0, 9), -4);
        Sentence none = new Sentence("ERRORS", "NONE = -5: There is no such thing; not an error.");
        none.due("NONE", NONE, -5);
        none.unchanged("no history", MercuryLine::new, MercuryLine::undo, -5);
    }

    private static void stationsAsOneNumber() {
        Sentence s = new Sentence("ERRORS", "Where a station is given as one number, it is 10 * line + number.");
        Supplier<MercuryLine> start = () -> {
            MercuryLine x = Setup.oneLine(24, 0, 1, 2, 3, 4, 5);
            x.build(1, 24);
            for (int offset = 10; offset < 15; offset++) {
                x.addStation(1, offset);
            }
            return x;
        };
        MercuryLine x = start.get();
        for (int code = -30; code <= 40; code++) {
            boolean zero = code >= 0 && code <= 5;
            boolean one = code >= 10 && code <= 14;
            s.due("the offset of " + code, x.station(code, 0), zero || one ? code : UNKNOWN);
        }
        for (int code : new int[] {-1, 6, 9, 15, 16, 19, 20, 24}) {
            s.unchanged("call at " + code, start, y -> y.call(code, 1), UNKNOWN);
            s.unchanged("callBack at " + code, start, y -> y.callBack(code), UNKNOWN);
            s.unchanged("book from " + code, start, y -> y.book(1, 1, code, 0, 1), UNKNOWN);
            s.unchanged("waiting at " + code, start, y -> y.waiting(code, 0), UNKNOWN);
            s.unchanged("calls at " + code, start, y -> y.calls(code, 0), UNKNOWN);
            s.unchanged("slotIn at " + code, start, y -> y.slotIn(code, 0), UNKNOWN);
            s.unchanged("lapsNeeded from " + code, start, y -> y.lapsNeeded(code, 0), UNKNOWN);
            s.unchanged("lapsNeeded to " + code, start, y -> y.lapsNeeded(0, code), UNKNOWN);
        }
        x.book(1, 1, 14, 5, 1);
        s.queue("the last of line 1", x, 14, 0);
        s.queue("not that of line 0", x, 4);
        x.call(12, 9);
        s.calls("of line 1", x, 12, 9);
        s.calls("not of line 0", x, 2);
    }

    private static void undoReturns() {
        Sentence s = new Sentence("Promise 18", "Returns the number of states that are left");
        s.due("of one", fares(1).undo(), 0);
        s.due("of two", fares(2).undo(), 1);
        s.due("of four", fares(4).undo(), 3);
        s.due("of five acts", fares(5).undo(), 3);
        MercuryLine x = fares(9);
        for (int left = 3; left >= 0; left--) {
            s.due("states that are left", x.undo(), left);
            s.due("as count(19) tells", x.count(19), left);
        }
    }

    private static void undoOfNothing() {
        Sentence s = new Sentence("Promise 18", "NONE if the history is empty");
        s.unchanged("of a new object", MercuryLine::new, MercuryLine::undo, NONE);
        s.unchanged("all undone", () -> {
            MercuryLine x = fares(5);
            while (x.count(19) > 0) {
                x.undo();
            }
            return x;
        }, MercuryLine::undo, NONE);
        s.unchanged("only refused calls before", () -> {
            MercuryLine x = new MercuryLine();
            x.setFare(0);
            x.setFare(10);
            x.tick(0);
            x.book(1, 1, 0, 1, 1);
            return x;
        }, MercuryLine::undo, NONE);
        s.unchanged("only keep() and typing before", () -> {
            MercuryLine x = Setup.typed(new MercuryLine(), SHORT);
            x.keep();
            x.clearText();
            return x;
        }, MercuryLine::undo, NONE);
    }

    private static void undoIsNoAct() {
        Sentence s = new Sentence("Promise 18", "Removes and restores the latest state of the history.");
        MercuryLine x = fares(3);
        x.undo();
        s.due("it is removed", x.count(19), 2);
        s.due("the second is the latest then", x.count(15), 2);
        x.undo();
        s.due("undo() is not undone by undo()", x.count(15), 1);
        x.setFare(50);
        s.due("another way", x.count(19), 2);
        x.undo();
        s.due("back", x.count(15), 1);
        x.undo();
        s.due("at first", x.count(15), 10);
        s.due("empty", x.undo(), NONE);
    }

    private static void keepInPlace() {
        Sentence s = new Sentence("Promise 19", "Takes a snapshot of the state, in place of the one that was.");
        MercuryLine x = Setup.booked(1);
        x.keep();
        x.tick(1);
        x.setFare(20);
        x.keep();
        x.tick(60);
        x.setFare(30);
        s.due("keep() is no act", x.count(19), 4);
        x.restore();
        s.due("the second's tick", x.count(0), 1);
        s.due("the second's fare", x.count(15), 20);
        s.ticket("the second's ticket", x, 0, 0, 1, 0, 1, 1, 10, 1, 0, 0, 0, 0, NONE, NONE, NONE);
        x.setFare(40);
        x.restore();
        s.due("still the second's", x.count(15), 20);
        s.same("all is as it was when it was kept", Told.state(BoundaryHistoryTest::crowded), Told.state(() -> {
            MercuryLine y = crowded();
            y.keep();
            y.tick(60);
            y.setFare(77);
            y.build(1, 3);
            y.restore();
            return y;
        }));
    }

    private static void keepReturns() {
        Sentence s = new Sentence("Promise 19", "Returns the number of the tick.");
        MercuryLine x = new MercuryLine();
        s.due("at first", x.keep(), 0);
        x.tick(1);
        s.due("then", x.keep(), 1);
        x.tick(60);
        x.tick(60);
        s.due("later", x.keep(), 121);
        x.undo();
        s.due("undone", x.keep(), 61);
        s.due("no act", x.count(19), 2);
    }

    private static void restoreStays() {
        Sentence s = new Sentence("Promise 20", "Restores the state of the snapshot, which stays.");
        MercuryLine x = Setup.booked(2);
        x.tick(1);
        x.keep();
        for (int i = 0; i < 3; i++) {
            x.tick(30);
            x.setFare(20 + i);
            x.cancel(1);
            s.due("restored", x.restore(), 1);
            s.due("fare", x.count(15), 10);
            s.due("ticket 0 rides", x.ticket(0, 6), 1);
            s.due("ticket 1 waits", x.ticket(1, 6), 0);
            s.due("slot 0", x.slot(0, 0), 0);
        }
        s.due("at once again", x.restore(), 1);
    }

    private static void restoreIsAnAct() {
        Sentence s = new Sentence("Promise 20", "This is an act.");
        s.act("restore()", BoundaryHistoryTest::ready, MercuryLine::restore, 1);
        s.act("of the state that is", () -> {
            MercuryLine x = fares(5);
            x.keep();
            return x;
        }, MercuryLine::restore, 0);
        MercuryLine x = fares(4);
        x.keep();
        x.restore();
        s.due("the oldest is dropped for it", x.count(19), 4);
        for (int fare : new int[] {4, 3, 2, 1}) {
            x.undo();
            s.due("the fare then", x.count(15), fare);
        }
        s.due("no more", x.undo(), NONE);
    }

    private static void restoreReturns() {
        Sentence s = new Sentence("Promise 20", "Returns the number of the tick then; NONE if there is no snapshot.");
        s.unchanged("no snapshot", BoundaryHistoryTest::crowded, MercuryLine::restore, NONE);
        MercuryLine x = new MercuryLine();
        x.tick(60);
        x.keep();
        x.tick(60);
        s.due("the snapshot's", x.restore(), 60);
        s.due("it is so", x.count(0), 60);
        x.undo();
        s.due("undone", x.count(0), 120);
        x.undo();
        x.undo();
        s.due("at first", x.count(0), 0);
        s.due("the snapshot of a later tick", x.restore(), 60);
    }
}
