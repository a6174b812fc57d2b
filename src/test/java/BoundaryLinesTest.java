import java.util.function.Supplier;

/** Boundary cases of the part LINES, of how long an object is used, and of the promises 1 to 7. */
public final class BoundaryLinesTest {
    private static final int UNKNOWN = MercuryLine.UNKNOWN;
    private static final int BAD_VALUE = MercuryLine.BAD_VALUE;
    private static final int FULL = MercuryLine.FULL;
    private static final int NOT_POSSIBLE = MercuryLine.NOT_POSSIBLE;
    private static final int NONE = MercuryLine.NONE;
    private static final int[] NO_LINES = {Integer.MIN_VALUE, -1, 2, 10, Integer.MAX_VALUE};

    public static void main(String[] args) {
        usedFor512Calls();
        twoLinesAlone();
        slotsOfALine();
        oneWordInASlot();
        phaseGoesAround();
        driftAndHeatAtFirst();
        sixStations();
        offsets();
        slotAtAStation();
        junctionIsStationZero();
        threeInAHall();
        hallGoesAheadOfTheStation();
        hallKeepsTheStationFromShoving();
        newObject();
        buildPhaseAndDrift();
        buildIsAnAct();
        buildLine();
        buildSlots();
        buildReturns();
        buildWithRiders();
        buildWithOffsets();
        buildAsManySlots();
        addStationIsAnAct();
        addStationLine();
        addStationNumber();
        addStationOffset();
        addStationAtATakenOffset();
        addStationWithSix();
        setHeatIsAnAct();
        setHeatLine();
        setHeatRange();
        setHeatChange();
        setHeatAsItIs();
        setFareIsAnAct();
        setFareRange();
        setFareKeepsWhatWasPaid();
        setFarePrevious();
        setPatienceIsAnAct();
        setPatienceRange();
        setPatiencePrevious();
        drainIsAnAct();
        drainBySlots();
        drainAFullLine();
        drainRefunds();
        drainLine();
        drainNobody();
        Check.end("BoundaryLinesTest");
    }

    private static void usedFor512Calls() {
        Sentence s = new Sentence("What it is", "An object is used for at most 512 calls after it has been made");
        MercuryLine x = new MercuryLine();
        for (int call = 1; call <= 511; call++) {
            x.tick(60);
        }
        s.due("the 512th call tells what the 511 before did", x.count(0), 511 * 60);
        MercuryLine y = Setup.twoLines();
        y.book(7, 1, 0, 1, 1);
        for (int call = 6; call <= 511; call++) {
            y.setPatience(call % 2);
        }
        s.due("the 512th call is an act", y.tick(5), 1);
    }

    private static void twoLinesAlone() {
        Sentence s = new Sentence("LINES", "There are two lines, 0 and 1.");
        for (int line : NO_LINES) {
            s.unchanged("build(" + line + ", 5)", Setup::twoLines, x -> x.build(line, 5), UNKNOWN);
            s.unchanged("addStation(" + line + ", 1)", Setup::twoLines, x -> x.addStation(line, 1), UNKNOWN);
            s.unchanged("setHeat(" + line + ", 1)", Setup::twoLines, x -> x.setHeat(line, 1), UNKNOWN);
            s.unchanged("drain(" + line + ")", Setup::twoLines, x -> x.drain(line), UNKNOWN);
            s.unchanged("line(" + line + ", 0)", Setup::twoLines, x -> x.line(line, 0), UNKNOWN);
            s.unchanged("slot(" + line + ", 0)", Setup::twoLines, x -> x.slot(line, 0), UNKNOWN);
        }
        MercuryLine x = new MercuryLine();
        s.due("a station on line 0", x.addStation(0, 3), 0);
        s.due("a station on line 1", x.addStation(1, 4), 0);
        s.due("the one of line 0", x.station(0, 0), 3);
        s.due("the one of line 1", x.station(10, 0), 4);
    }

    private static void slotsOfALine() {
        Sentence s = new Sentence("LINES", "A line has 2 to 24 slots (at first 8), numbered from 0");
        for (int slots : new int[] {2, 8, 24}) {
            MercuryLine x = new MercuryLine();
            s.due("slots at first", x.line(0, 0), 8);
            s.due(slots + " slots", x.build(0, slots), slots == 8 ? NONE : 8);
            s.due(slots + " slots are told", x.line(0, 0), slots);
            s.due("slot 0 of " + slots, x.slot(0, 0), NONE);
            s.due("the last slot of " + slots, x.slot(0, slots - 1), NONE);
            s.due("the slot behind the last of " + slots, x.slot(0, slots), BAD_VALUE);
            s.due("slot -1 of " + slots, x.slot(0, -1), BAD_VALUE);
            s.due("the last slot of the other line", x.slot(1, 7), NONE);
            s.due("no slot behind the last of the other line", x.slot(1, 8), BAD_VALUE);
        }
        s.unchanged("build(0, 1)", MercuryLine::new, x -> x.build(0, 1), BAD_VALUE);
        s.unchanged("build(0, 25)", MercuryLine::new, x -> x.build(0, 25), BAD_VALUE);
    }

    private static void oneWordInASlot() {
        Sentence s = new Sentence("LINES", "each of which holds one word or none");
        MercuryLine x = Setup.booked(2);
        x.tick(1);
        s.due("slot 0 holds ticket 0", x.slot(0, 0), 0);
        s.line("one rides", x, 0, 8, 1, 100, 100, 2, 1, 0, 0, 0);
        s.queue("ticket 1 has found no slot", x, 0, 1);
        for (int slot = 1; slot < 8; slot++) {
            s.due("slot " + slot, x.slot(0, slot), NONE);
        }
    }

    private static void phaseGoesAround() {
        Sentence s = new Sentence("LINES", "a phase (a slot, at first 0)");
        for (int slots : new int[] {2, 8, 24}) {
            MercuryLine x = Setup.oneLine(slots, 0);
            s.due("phase of " + slots + " at first", x.line(0, 1), 0);
            x.tick(slots - 1);
            s.due("the last phase of " + slots, x.line(0, 1), slots - 1);
            s.due("the last slot is at the offset 0", x.station(0, 1), slots - 1);
            x.tick(1);
            s.due("phase behind the last of " + slots, x.line(0, 1), 0);
            s.due("slot 0 is at the offset 0 again", x.station(0, 1), 0);
        }
    }

    private static void driftAndHeatAtFirst() {
        Sentence s = new Sentence("LINES", "a drift (at first 0); and a heat from -10 to 10 (at first 0)");
        for (int line = 0; line < 2; line++) {
            int tried = line;
            MercuryLine x = new MercuryLine();
            s.line("at first", x, line, 8, 0, 100, 100);
            s.due("heat 10", x.setHeat(line, 10), 10);
            s.line("with heat 10", x, line, 8, 0, 100, 110);
            s.due("heat -10", x.setHeat(line, -10), 20);
            s.line("with heat -10", x, line, 8, 0, 100, 90);
            s.unchanged("heat 11", MercuryLine::new, y -> y.setHeat(tried, 11), BAD_VALUE);
            s.unchanged("heat -11", MercuryLine::new, y -> y.setHeat(tried, -11), BAD_VALUE);
        }
    }

    private static void sixStations() {
        Sentence s = new Sentence("LINES",
            "A line has at most 6 stations, numbered from 0 in the order in which they were added.");
        int[] offsets = {5, 0, 7, 3, 1, 6};
        MercuryLine x = new MercuryLine();
        for (int i = 0; i < offsets.length; i++) {
            s.due("before station " + i + " is added", x.station(i, 0), UNKNOWN);
            s.due("station " + i, x.addStation(0, offsets[i]), i);
        }
        for (int i = 0; i < offsets.length; i++) {
            s.due("offset of station " + i, x.station(i, 0), offsets[i]);
        }
        s.due("stations of line 0", x.line(0, 4), 6);
        s.due("stations of line 1", x.line(1, 4), 0);
        s.due("there is no station 6", x.station(6, 0), UNKNOWN);
        s.unchanged("a seventh", () -> Setup.oneLine(8, offsets), y -> y.addStation(0, 2), FULL);
        s.due("line 1 has room", x.addStation(1, 2), 0);
    }

    private static void offsets() {
        Sentence s = new Sentence("LINES",
            "A station has an offset, less than the number of slots; no two of a line have the same.");
        for (int slots : new int[] {2, 8, 24}) {
            Supplier<MercuryLine> start = () -> Setup.oneLine(slots, 0);
            s.unchanged("an offset of " + slots, start, x -> x.addStation(0, slots), BAD_VALUE);
            s.unchanged("an offset of -1", start, x -> x.addStation(0, -1), BAD_VALUE);
            s.unchanged("the offset 0 again", start, x -> x.addStation(0, 0), NOT_POSSIBLE);
            MercuryLine x = start.get();
            s.due("an offset that is just less than " + slots, x.addStation(0, slots - 1), 1);
            s.due("that offset again", x.addStation(0, slots - 1), NOT_POSSIBLE);
            s.due("the offset 0 on the other line", x.addStation(1, 0), 0);
            s.due("two stations", x.line(0, 4), 2);
        }
    }

    private static void slotAtAStation() {
        Sentence s = new Sentence("LINES", "The slot that is at a station is (phase + offset) % slots.");
        MercuryLine x = Setup.oneLine(8, 0, 7, 1);
        int[][] due = {{0, 7, 1}, {1, 0, 2}, {7, 6, 0}, {0, 7, 1}};
        int[] ticks = {0, 1, 6, 1};
        for (int i = 0; i < due.length; i++) {
            if (ticks[i] > 0) {
                x.tick(ticks[i]);
            }
            for (int station = 0; station < 3; station++) {
                s.due("at station " + station + " when the phase is " + due[i][0],
                    x.station(station, 1), due[i][station]);
            }
        }
        x.book(9, 1, 1, 0, 1);
        x.tick(1);
        s.due("who boards at the offset 7 in the phase 0 is in slot 7", x.slot(0, 7), 0);
        x.book(9, 1, 1, 0, 1);
        x.tick(1);
        s.due("who boards there in the phase 1 is in slot 0", x.slot(0, 0), 1);
    }

    private static void junctionIsStationZero() {
        Sentence s = new Sentence("LINES", "The stations 0 of both lines are the junction.");
        MercuryLine x = Setup.oneLine(8, 4, 0);
        x.addStation(1, 2);
        x.addStation(1, 0);
        x.book(7, 1, 1, 11, 1);
        x.tick(4);
        s.due("it rides line 0", x.ticket(0, 7), 0);
        x.tick(1);
        s.event("it got off at station 0", x, 1, 3, 0, 0, 0, 4);
        s.event("and boarded at station 10", x, 0, 0, 0, 1, 10, 4);
        s.due("its slot there", x.ticket(0, 8), 6);
        s.due("it is not at station 11 yet", x.tick(1), 0);
        s.due("then it is", x.tick(1), 1);
    }

    private static void threeInAHall() {
        Sentence s = new Sentence("LINES",
            "Each line has a hall there, for words that came from the other line and wait for this one: at most 3.");
        MercuryLine x = Setup.fullHall();
        s.due("in the hall of line 0", x.line(0, 6), 3);
        s.due("in the hall of line 1", x.line(1, 6), 0);
        for (int ticket = 1; ticket <= 3; ticket++) {
            s.ticket("in the hall", x, ticket, ticket, 1, 11, 1, 9, 90, 2, 0, NONE);
        }
        x.book(4, 1, 11, 1, 9);
        x.tick(3);
        s.due("still three", x.line(0, 6), 3);
        s.ticket("a fourth rides past the junction", x, 4, 4, 1, 11, 1, 9, 90, 1, 1, 0);
        x.cancel(2);
        s.due("one has left it", x.line(0, 6), 2);
        x.tick(4);
        s.due("three again", x.line(0, 6), 3);
        s.ticket("the fourth has come with a lap less", x, 4, 4, 1, 11, 1, 8, 90, 2, 0, NONE);
    }

    private static void hallGoesAheadOfTheStation() {
        Sentence s = new Sentence("LINES",
            "As long as anybody is in the hall, those who wait at the station itself do not board");
        MercuryLine x = Setup.shortLines();
        x.book(1, 1, 11, 1, 9);
        x.tick(3);
        x.book(2, 3, 0, 1, 9);
        s.queue("one waits at the station", x, 0, 1);
        s.due("the one of the hall is next", x.station(0, 8), 0);
        x.tick(1);
        s.due("the hall boards", x.slot(0, 3), 0);
        s.queue("the station does not, in spite of its class", x, 0, 1);
        s.due("nobody is in the hall", x.line(0, 6), 0);
        s.due("the one of the station is next", x.station(0, 8), 1);
        x.tick(1);
        s.due("the station boards then", x.slot(0, 0), 1);
        s.queue("nobody waits", x, 0);
    }

    private static void hallKeepsTheStationFromShoving() {
        Sentence s = new Sentence("LINES",
            "As long as anybody is in the hall, those who wait at the station itself do not board, "
            + "and shove nobody out.");
        MercuryLine x = Setup.blockedJunction(1);
        x.setPatience(0);
        x.book(1, 1, 11, 1, 9);
        x.tick(3);
        x.book(2, 3, 0, 1, 9);
        x.tick(5);
        s.ticket("it rides on", x, 0, 90, 1, 1, 2, 9, 90, 1, 0, 1);
        s.due("shoved out at the junction", x.station(0, 6), 0);
        s.queue("the one of class 3 waits", x, 0, 2);
        x.cancel(1);
        x.tick(1);
        s.ticket("without a hall it is shoved out", x, 0,
            90, 1, 1, 2, 9, 90, 5, NONE, NONE, 0, 0, 9, 0, 2);
    }

    private static void newObject() {
        Sentence s = new Sentence("Promise 1", "Creates two lines of 8 slots without stations.");
        MercuryLine x = new MercuryLine();
        for (int line = 0; line < 2; line++) {
            s.line("of a new object", x, line, 8, 0, 100, 100, 0, 0, 0, 0, 0);
            for (int slot = 0; slot < 8; slot++) {
                s.due("slot " + slot + " of line " + line, x.slot(line, slot), NONE);
            }
            s.due("behind the last slot of line " + line, x.slot(line, 8), BAD_VALUE);
        }
        for (int station = 0; station < 20; station++) {
            s.due("there is no station " + station, x.station(station, 0), UNKNOWN);
        }
        int[] counts = {0, 0, 0, 0, 0, 0, 0, 0, 0, 0, 0, 0, 0, 0, 0, 10, 3, 0, 0, 0, 0};
        for (int what = 0; what < counts.length; what++) {
            s.due("count(" + what + ")", x.count(what), counts[what]);
        }
        s.due("no ticket", x.ticket(0, 0), UNKNOWN);
        s.due("no order", x.ordered(0, 0), UNKNOWN);
        s.due("no event", x.event(0, 0), NONE);
        s.due("no history", x.undo(), NONE);
        s.due("no snapshot", x.restore(), NONE);
        s.due("a text with its fault at 0", x.readTickets(), -100);
        s.due("a tick without anybody", x.tick(1), 0);
    }

    private static void buildPhaseAndDrift() {
        Sentence s = new Sentence("Promise 2", "Gives a line another number of slots; its phase and drift are 0 then.");
        MercuryLine x = new MercuryLine();
        x.tick(6);
        x.setHeat(0, 9);
        x.tick(1);
        s.line("the last phase and the greatest drift", x, 0, 8, 7, 109, 109);
        x.build(0, 24);
        s.line("24 slots", x, 0, 24, 0, 100, 109, 0, 0, 0, 0, 0);
        s.line("the other line stays", x, 1, 8, 7, 100, 100, 0, 0, 0, 0, 0);
        MercuryLine y = new MercuryLine();
        y.setHeat(1, 10);
        y.tick(2);
        y.setHeat(1, -10);
        y.tick(1);
        y.setHeat(1, -9);
        y.tick(1);
        s.line("the least drift", y, 1, 8, 3, 91, 91, 0, 0, 0, 2, 1);
        y.build(1, 2);
        s.line("2 slots; its pauses and skips stay", y, 1, 2, 0, 100, 91, 0, 0, 0, 2, 1);
    }

    private static void buildIsAnAct() {
        Sentence s = new Sentence("Promise 2", "This is an act.");
        s.act("build(0, 24)", Setup::twoLines, x -> x.build(0, 24), 8);
        s.act("build(1, 5) in the midst", () -> Setup.inState(3), x -> x.build(1, 5), 4);
    }

    private static void buildLine() {
        Sentence s = new Sentence("Promise 2", "line: 0 or 1");
        for (int line : NO_LINES) {
            s.unchanged("build(" + line + ", 9)", MercuryLine::new, x -> x.build(line, 9), UNKNOWN);
            s.unchanged("build(" + line + ", 1)", MercuryLine::new, x -> x.build(line, 1), UNKNOWN);
            s.unchanged("build(" + line + ", 8)", MercuryLine::new, x -> x.build(line, 8), UNKNOWN);
        }
        MercuryLine x = new MercuryLine();
        s.due("line 1", x.build(1, 9), 8);
        s.due("line 1 has them", x.line(1, 0), 9);
        s.due("line 0 has not", x.line(0, 0), 8);
    }

    private static void buildSlots() {
        Sentence s = new Sentence("Promise 2", "slots: 2 to 24");
        for (int slots : new int[] {Integer.MIN_VALUE, -2, 0, 1, 25, 26, 100, Integer.MAX_VALUE}) {
            s.unchanged("build(0, " + slots + ")", MercuryLine::new, x -> x.build(0, slots), BAD_VALUE);
        }
        MercuryLine x = new MercuryLine();
        s.due("2 slots", x.build(0, 2), 8);
        s.due("24 slots", x.build(0, 24), 2);
        s.due("24 slots are told", x.line(0, 0), 24);
    }

    private static void buildReturns() {
        Sentence s = new Sentence("Promise 2", "Returns the number of slots that it had");
        MercuryLine x = new MercuryLine();
        int had = 8;
        for (int slots : new int[] {2, 24, 3, 23, 8}) {
            s.due("build(1, " + slots + ")", x.build(1, slots), had);
            s.due("line(1, 0)", x.line(1, 0), slots);
            had = slots;
        }
    }

    private static void buildWithRiders() {
        Sentence s = new Sentence("Promise 2", "UNKNOWN; BAD_VALUE; NOT_POSSIBLE if a word rides on it");
        for (int slots : new int[] {2, 3, 9, 24}) {
            s.unchanged("one rides, build(0, " + slots + ")", () -> Setup.inState(1),
                x -> x.build(0, slots), NOT_POSSIBLE);
        }
        s.unchanged("one rides, as many slots", () -> Setup.inState(1), x -> x.build(0, 4), NOT_POSSIBLE);
        s.unchanged("one rides, 25 slots", () -> Setup.inState(1), x -> x.build(0, 25), BAD_VALUE);
        s.unchanged("one rides, line 2", () -> Setup.inState(1), x -> x.build(2, 9), UNKNOWN);
        s.due("one rides on the other line", Setup.inState(1).build(1, 9), 4);
        s.due("one only waits", Setup.inState(0).build(0, 9), 4);
        s.due("one has got off", Setup.inState(3).build(0, 9), 4);
        MercuryLine x = Setup.inState(2);
        s.due("one is in its hall", x.build(0, 3), 4);
        x.tick(1);
        s.due("and boards then", x.slot(0, 0), 0);
    }

    private static void buildWithOffsets() {
        Sentence s = new Sentence("Promise 2", "or a station has an offset that is not less");
        Supplier<MercuryLine> start = () -> Setup.oneLine(8, 0, 5, 1);
        s.unchanged("an offset that is equal", start, x -> x.build(0, 5), NOT_POSSIBLE);
        s.unchanged("an offset that is greater", start, x -> x.build(0, 4), NOT_POSSIBLE);
        s.unchanged("the offset of the first", () -> Setup.oneLine(8, 5, 0), x -> x.build(0, 5), NOT_POSSIBLE);
        s.unchanged("the offset of the last", () -> Setup.oneLine(8, 0, 5), x -> x.build(0, 5), NOT_POSSIBLE);
        MercuryLine x = start.get();
        s.due("all are less", x.build(0, 6), 8);
        s.due("the offset stays", x.station(1, 0), 5);
        s.due("its slot is the last", x.station(1, 1), 5);
        x.addStation(1, 7);
        s.due("an offset of the other line", x.build(0, 7), 6);
    }

    private static void buildAsManySlots() {
        Sentence s = new Sentence("Promise 2", "NONE if it has so many already");
        s.unchanged("build(0, 8)", MercuryLine::new, x -> x.build(0, 8), NONE);
        s.unchanged("build(0, 24) again", () -> Setup.oneLine(24, 0), x -> x.build(0, 24), NONE);
        s.unchanged("the phase is not set back", () -> Setup.inState(3), x -> x.build(0, 4), NONE);
        s.due("as many as the other line has", Setup.oneLine(24, 0).build(0, 8), 24);
    }

    private static void addStationIsAnAct() {
        Sentence s = new Sentence("Promise 3", "Adds a station to a line. This is an act.");
        s.act("addStation(0, 3)", Setup::twoLines, x -> x.addStation(0, 3), 2);
        s.act("addStation(1, 3)", Setup::twoLines, x -> x.addStation(1, 3), 2);
        s.act("the sixth", () -> Setup.oneLine(8, 0, 1, 2, 3, 4), x -> x.addStation(0, 7), 5);
    }

    private static void addStationLine() {
        Sentence s = new Sentence("Promise 3", "line: 0 or 1");
        for (int line : NO_LINES) {
            s.unchanged("addStation(" + line + ", 0)", MercuryLine::new, x -> x.addStation(line, 0), UNKNOWN);
            s.unchanged("addStation(" + line + ", 8)", MercuryLine::new, x -> x.addStation(line, 8), UNKNOWN);
        }
        MercuryLine x = new MercuryLine();
        s.due("line 1", x.addStation(1, 5), 0);
        s.due("line 1 has it", x.station(10, 0), 5);
        s.due("line 0 has not", x.station(0, 0), UNKNOWN);
    }

    private static void addStationNumber() {
        Sentence s = new Sentence("Promise 3", "- offset: its offset Returns its number on the line; UNKNOWN");
        MercuryLine x = new MercuryLine();
        s.due("the first of line 0", x.addStation(0, 4), 0);
        s.due("the first of line 1", x.addStation(1, 2), 0);
        s.due("the second of line 1", x.addStation(1, 5), 1);
        s.due("the second of line 0", x.addStation(0, 1), 1);
        s.station("a new one", x, 11, 5, 5, 0, 0, 0, 0, 0, 0, NONE);
        s.due("there is no third", x.station(12, 0), UNKNOWN);
        MercuryLine y = Setup.inState(3);
        y.undo();
        y.undo();
        s.due("behind an undo", y.addStation(0, 3), 2);
        s.station("it has not seen anybody", y, 2, 3, 3, 0, 0, 0, 0, 0, 0, NONE);
    }

    private static void addStationOffset() {
        Sentence s = new Sentence("Promise 3", "BAD_VALUE if it is negative or not less than the number of slots");
        for (int offset : new int[] {Integer.MIN_VALUE, -1, 8, 9, 24, Integer.MAX_VALUE}) {
            s.unchanged("addStation(0, " + offset + ")", Setup::twoLines, x -> x.addStation(0, offset), BAD_VALUE);
        }
        MercuryLine x = new MercuryLine();
        s.due("the offset 0", x.addStation(0, 0), 0);
        s.due("the offset 7", x.addStation(0, 7), 1);
        x.build(0, 24);
        s.due("the offset 23 of 24 slots", x.addStation(0, 23), 2);
        s.due("the offset 24 of 24 slots", x.addStation(0, 24), BAD_VALUE);
        s.due("the other line has 8 slots still", x.addStation(1, 8), BAD_VALUE);
    }

    private static void addStationAtATakenOffset() {
        Sentence s = new Sentence("Promise 3", "NOT_POSSIBLE if there is a station with this offset");
        s.unchanged("the offset of the first", Setup::twoLines, x -> x.addStation(0, 0), NOT_POSSIBLE);
        s.unchanged("the offset of the last", Setup::twoLines, x -> x.addStation(0, 4), NOT_POSSIBLE);
        s.due("an offset of the other line alone", Setup.oneLine(8, 0, 4).addStation(1, 4), 0);
        s.due("the slot, not the offset, is where one was", Setup.inState(3).addStation(0, 1), 2);
    }

    private static void addStationWithSix() {
        Sentence s = new Sentence("Promise 3", "FULL if there are 6");
        Supplier<MercuryLine> six = () -> Setup.oneLine(8, 0, 1, 2, 3, 4, 5);
        s.unchanged("a seventh", six, x -> x.addStation(0, 6), FULL);
        s.unchanged("a seventh where one is", six, x -> x.addStation(0, 5), NOT_POSSIBLE);
        s.unchanged("a seventh out of range", six, x -> x.addStation(0, 8), BAD_VALUE);
        s.due("a sixth", Setup.oneLine(8, 0, 1, 2, 3, 4).addStation(0, 6), 5);
        s.due("the other line", six.get().addStation(1, 6), 0);
    }

    private static void setHeatIsAnAct() {
        Sentence s = new Sentence("Promise 4", "Sets the heat of a line. This is an act.");
        s.act("setHeat(0, 10)", Setup::twoLines, x -> x.setHeat(0, 10), 10);
        s.act("setHeat(1, -10)", Setup::twoLines, x -> x.setHeat(1, -10), 10);
        s.act("setHeat(0, 9) of 10", () -> Setup.blockedJunction(1), x -> x.setHeat(0, 9), 1);
    }

    private static void setHeatLine() {
        Sentence s = new Sentence("Promise 4", "line: 0 or 1");
        for (int line : NO_LINES) {
            s.unchanged("setHeat(" + line + ", 5)", MercuryLine::new, x -> x.setHeat(line, 5), UNKNOWN);
            s.unchanged("setHeat(" + line + ", 11)", MercuryLine::new, x -> x.setHeat(line, 11), UNKNOWN);
            s.unchanged("setHeat(" + line + ", 0)", MercuryLine::new, x -> x.setHeat(line, 0), UNKNOWN);
        }
        MercuryLine x = new MercuryLine();
        s.due("line 1", x.setHeat(1, 5), 5);
        s.due("line 1 has it", x.line(1, 3), 105);
        s.due("line 0 has not", x.line(0, 3), 100);
    }

    private static void setHeatRange() {
        Sentence s = new Sentence("Promise 4", "heat: -10 to 10");
        for (int heat : new int[] {Integer.MIN_VALUE, -100, -11, 11, 100, Integer.MAX_VALUE}) {
            s.unchanged("setHeat(0, " + heat + ")", MercuryLine::new, x -> x.setHeat(0, heat), BAD_VALUE);
        }
        for (int heat : new int[] {-10, -9, 9, 10}) {
            MercuryLine x = new MercuryLine();
            s.due("setHeat(0, " + heat + ")", x.setHeat(0, heat), Math.abs(heat));
            s.due("the heat then", x.line(0, 3), 100 + heat);
        }
    }

    private static void setHeatChange() {
        Sentence s = new Sentence("Promise 4", "Returns by how much it changes, without a sign; UNKNOWN; BAD_VALUE");
        MercuryLine x = new MercuryLine();
        int[][] steps = {{10, 10}, {-10, 20}, {10, 20}, {9, 1}, {-1, 10}, {0, 1}, {-10, 10}, {-9, 1}};
        for (int[] step : steps) {
            s.due("setHeat(0, " + step[0] + ")", x.setHeat(0, step[0]), step[1]);
            s.due("the heat then", x.line(0, 3), 100 + step[0]);
            s.due("the drift stays", x.line(0, 2), 100);
        }
    }

    private static void setHeatAsItIs() {
        Sentence s = new Sentence("Promise 4", "NONE if it is so already");
        s.unchanged("0 at first", MercuryLine::new, x -> x.setHeat(0, 0), NONE);
        Supplier<MercuryLine> hot = () -> {
            MercuryLine x = new MercuryLine();
            x.setHeat(0, 10);
            x.setHeat(1, -10);
            return x;
        };
        s.unchanged("10 again", hot, x -> x.setHeat(0, 10), NONE);
        s.unchanged("-10 again", hot, x -> x.setHeat(1, -10), NONE);
        s.due("10 where the other line has it", hot.get().setHeat(1, 10), 20);
    }

    private static void setFareIsAnAct() {
        Sentence s = new Sentence("Promise 5", "This is an act.");
        s.act("setFare(1)", Setup::twoLines, x -> x.setFare(1), 10);
        s.act("setFare(99)", () -> Setup.booked(2), x -> x.setFare(99), 10);
    }

    private static void setFareRange() {
        Sentence s = new Sentence("Promise 5", "fare: 1 to 99");
        for (int fare : new int[] {Integer.MIN_VALUE, -1, 0, 100, 101, Integer.MAX_VALUE}) {
            s.unchanged("setFare(" + fare + ")", MercuryLine::new, x -> x.setFare(fare), BAD_VALUE);
        }
        for (int fare : new int[] {1, 2, 98, 99}) {
            MercuryLine x = new MercuryLine();
            s.due("setFare(" + fare + ")", x.setFare(fare), 10);
            s.due("the fare then", x.count(15), fare);
        }
    }

    private static void setFareKeepsWhatWasPaid() {
        Sentence s = new Sentence("Promise 5", "Sets the fare; tickets that there are keep what was paid.");
        MercuryLine x = Setup.twoLines();
        x.book(7, 3, 0, 1, 9);
        x.setFare(99);
        s.due("what was paid", x.ticket(0, 5), 295);
        s.due("held", x.count(14), 295);
        s.due("what one costs now", x.price(3, 9), 2698);
        s.due("a new one", x.book(7, 3, 0, 1, 9), 1);
        s.due("what was paid for it", x.ticket(1, 5), 2698);
        s.due("held then", x.count(14), 295 + 2698);
        s.due("refunded as it was paid", x.cancel(0), 295);
        x.setFare(1);
        s.due("the other one, too", x.cancel(1), 2698);
        s.due("refunded", x.count(13), 295 + 2698);
    }

    private static void setFarePrevious() {
        Sentence s = new Sentence("Promise 5", "Returns the previous one; BAD_VALUE; NONE if it is so already.");
        MercuryLine x = new MercuryLine();
        int previous = 10;
        for (int fare : new int[] {1, 99, 98, 2}) {
            s.due("setFare(" + fare + ")", x.setFare(fare), previous);
            s.due("the fare then", x.count(15), fare);
            s.due("again", x.setFare(fare), NONE);
            previous = fare;
        }
        s.unchanged("10 at first", MercuryLine::new, y -> y.setFare(10), NONE);
    }

    private static void setPatienceIsAnAct() {
        Sentence s = new Sentence("Promise 6", "Sets the patience. This is an act.");
        s.act("setPatience(0)", Setup::twoLines, x -> x.setPatience(0), 3);
        s.act("setPatience(50) of 0", () -> Setup.inState(1), x -> x.setPatience(50), 0);
    }

    private static void setPatienceRange() {
        Sentence s = new Sentence("Promise 6", "ticks: 0 to 50");
        for (int ticks : new int[] {Integer.MIN_VALUE, -1, 51, 52, Integer.MAX_VALUE}) {
            s.unchanged("setPatience(" + ticks + ")", MercuryLine::new, x -> x.setPatience(ticks), BAD_VALUE);
        }
        for (int ticks : new int[] {0, 1, 49, 50}) {
            MercuryLine x = new MercuryLine();
            s.due("setPatience(" + ticks + ")", x.setPatience(ticks), 3);
            s.due("the patience then", x.count(16), ticks);
        }
    }

    private static void setPatiencePrevious() {
        Sentence s = new Sentence("Promise 6", "Returns the previous one; BAD_VALUE; NONE if it is so already.");
        MercuryLine x = new MercuryLine();
        int previous = 3;
        for (int ticks : new int[] {0, 50, 49, 1}) {
            s.due("setPatience(" + ticks + ")", x.setPatience(ticks), previous);
            s.due("the patience then", x.count(16), ticks);
            s.due("again", x.setPatience(ticks), NONE);
            previous = ticks;
        }
        s.unchanged("3 at first", MercuryLine::new, y -> y.setPatience(3), NONE);
    }

    private static void drainIsAnAct() {
        Sentence s = new Sentence("Promise 7", "This is an act.");
        s.act("one rides", () -> Setup.inState(1), x -> x.drain(0), 1);
        s.act("one stands at the junction", Setup::fullHall, x -> x.drain(0), 1);
        s.act("24 ride", BoundaryLinesTest::fullLine, x -> x.drain(0), 24);
    }

    /** The line 0 has 24 slots, and a word in each of them; one more waits. */
    private static MercuryLine fullLine() {
        MercuryLine x = Setup.oneLine(24, 0);
        x.addStation(1, 0);
        x.addStation(1, 4);
        for (int i = 0; i < 25; i++) {
            x.book(i, 1, 0, 11, 1);
        }
        x.tick(24);
        return x;
    }

    private static void drainBySlots() {
        Sentence s = new Sentence("Promise 7",
            "Drains a line: all words that ride on it are put out, by their slots from 0 on");
        MercuryLine x = Setup.oneLine(8, 7, 0, 3);
        x.book(1, 1, 0, 2, 9);
        x.book(2, 1, 1, 2, 9);
        x.tick(1);
        s.due("ticket 0 is in the last slot", x.slot(0, 7), 0);
        s.due("ticket 1 is in the first slot", x.slot(0, 0), 1);
        x.drain(0);
        s.event("the first slot goes first", x, 1, 8, 1, 0, NONE, 1);
        s.event("the last slot goes last", x, 0, 8, 0, 0, NONE, 1);
        s.due("nobody rides", x.line(0, 5), 0);
        s.due("the last slot is empty", x.slot(0, 7), NONE);
        s.due("the first slot is empty", x.slot(0, 0), NONE);
        s.ticket("drained", x, 0, 1, 1, 0, 2, 9, 90, 7, NONE, NONE, 0, 0, 1, NONE, NONE);
    }

    private static void drainAFullLine() {
        Sentence s = new Sentence("Promise 7", "Returns how many these are");
        MercuryLine x = fullLine();
        s.due("24 ride", x.line(0, 5), 24);
        s.due("24 are put out", x.drain(0), 24);
        s.due("drained", x.count(9), 24);
        s.due("one waits still", x.count(2), 1);
        s.event("the last slot", x, 0, 8, 23, 0, NONE, 24);
        s.event("the twelfth from behind", x, 11, 8, 12, 0, NONE, 24);
        s.due("one", Setup.inState(1).drain(0), 1);
    }

    private static void drainRefunds() {
        Sentence s = new Sentence("Promise 7",
            "all words that ride on it are put out, by their slots from 0 on, and refunded");
        MercuryLine x = Setup.shortLines();
        x.book(1, 3, 0, 1, 9);
        x.book(2, 1, 1, 0, 1);
        x.book(3, 2, 10, 11, 1);
        x.tick(1);
        s.due("two are put out", x.drain(0), 2);
        s.due("refunded", x.count(13), 295 + 10);
        s.due("earned", x.count(12), 0);
        s.due("held for the one of the other line", x.count(14), 20);
        s.due("it rides on", x.ticket(2, 6), 1);
    }

    private static void drainLine() {
        Sentence s = new Sentence("Promise 7", "line: 0 or 1");
        for (int line : NO_LINES) {
            s.unchanged("drain(" + line + ")", () -> Setup.inState(1), x -> x.drain(line), UNKNOWN);
        }
        MercuryLine x = Setup.shortLines();
        x.book(1, 1, 10, 11, 1);
        x.tick(1);
        s.due("line 1", x.drain(1), 1);
        s.event("its event", x, 0, 8, 0, 1, NONE, 1);
    }

    private static void drainNobody() {
        Sentence s = new Sentence("Promise 7", "UNKNOWN; NONE if there are none");
        s.unchanged("of a new object", MercuryLine::new, x -> x.drain(0), NONE);
        s.unchanged("one only waits", () -> Setup.inState(0), x -> x.drain(0), NONE);
        s.unchanged("one rides on the other line", () -> Setup.inState(1), x -> x.drain(1), NONE);
        s.unchanged("one is in its hall", () -> Setup.inState(2), x -> x.drain(0), NONE);
        for (int end = 3; end <= 8; end++) {
            int state = end;
            s.unchanged("one has ended: " + end, () -> Setup.inState(state), x -> x.drain(1), NONE);
        }
    }
}
