/** Boundary cases of the part A TICK, and of the promise 14. */
public final class BoundaryTickTest {
    private static final int BAD_VALUE = MercuryLine.BAD_VALUE;
    private static final int NONE = MercuryLine.NONE;

    public static void main(String[] args) {
        orderByItsPeriod();
        orderByItsNumber();
        orderWithTheFareOfNow();
        orderWithoutRoom();
        orderAheadOfBoarding();
        lineZeroGoesFirst();
        stationsByTheirNumbers();
        slotOfTheTick();
        arrivesBeforeAll();
        calledOffByTheFirstCall();
        calledOffBeforeTheHall();
        calledOffBeforeItsLaps();
        hallOnlyAtStationZero();
        hallOnlyForTheOtherLine();
        hallWithLessThanThree();
        fullHallUsesLaps();
        boardsLineOneInTheSameTick();
        arrivesWhenItRidesThere();
        lapOnlyWhereItBoarded();
        lapOnlyInALaterTick();
        lapInAPause();
        lastLap();
        boardsAnEmptySlot();
        boardsASlotThatWasLeft();
        boardsFromTheHallOnlyAtStationZero();
        boardsNobody();
        shovesALesserClass();
        shovesWithPatience();
        shovesWithTheGreatestPatience();
        shovesAtOnceWithoutPatience();
        shovesFromTheHall();
        shovesBehindALap();
        driftOfTen();
        driftOfMinusTen();
        phasesAroundTheEnd();
        bothLinesMove();
        tickNumber();
        keepsItsLapsFromTheHall();
        waitsSinceItCame();
        ticksRange();
        ticksReturn();
        ticksAreOneAct();
        Check.end("BoundaryTickTest");
    }

    private static void orderByItsPeriod() {
        Sentence s = new Sentence("A TICK", "if the number of the tick (from 0) minus the tick in which the order "
            + "was given can be divided by its period, a ticket is booked as the order tells");
        MercuryLine x = Setup.booked(1);
        x.tick(2);
        x.order(0, 3);
        int[] due = {1, 1, 1, 2, 2, 2, 3};
        for (int i = 0; i < due.length; i++) {
            x.tick(1);
            s.due("booked up to the tick " + (2 + i), x.ordered(0, 2), due[i]);
            s.due("the latest was booked in tick", x.ticket(due[i], 9), 2 + 3 * (due[i] - 1));
        }
        MercuryLine y = Setup.booked(1);
        y.order(0, 50);
        y.order(0, 1);
        y.tick(1);
        s.due("in tick 0, period 50", y.ordered(0, 2), 1);
        s.due("in tick 0, period 1", y.ordered(1, 2), 1);
        y.endOrder(1);
        y.tick(49);
        s.due("up to tick 49, period 50", y.ordered(0, 2), 1);
        y.tick(1);
        s.due("in tick 50, period 50", y.ordered(0, 2), 2);
        s.due("its tick", y.ticket(3, 9), 50);
    }

    private static void orderByItsNumber() {
        Sentence s = new Sentence("A TICK", "For each order, by its number");
        MercuryLine x = Setup.booked(3);
        x.order(2, 2);
        x.order(0, 1);
        x.order(1, 2);
        x.tick(1);
        s.due("order 0 goes first", x.ticket(3, 0), 2);
        s.due("order 1 goes second", x.ticket(4, 0), 0);
        s.due("order 2 goes third", x.ticket(5, 0), 1);
        s.due("three", x.count(1), 6);
        x.tick(1);
        s.due("order 1 alone", x.ticket(6, 0), 0);
        s.due("one", x.count(1), 7);
    }

    private static void orderWithTheFareOfNow() {
        Sentence s = new Sentence("A TICK", "a ticket is booked as the order tells (with the fare of now)");
        MercuryLine x = Setup.booked(1);
        x.order(0, 1);
        x.setFare(99);
        x.tick(1);
        x.setFare(1);
        x.tick(1);
        s.due("of the first", x.ticket(0, 5), 10);
        s.due("in tick 0", x.ticket(1, 5), 99);
        s.due("in tick 1", x.ticket(2, 5), 1);
        s.due("all that was paid", x.count(11), 110);
    }

    private static void orderWithoutRoom() {
        Sentence s = new Sentence("A TICK",
            "if there have been less than 40 tickets; otherwise the order is skipped");
        MercuryLine x = Setup.booked(39);
        x.order(0, 1);
        x.order(1, 1);
        x.tick(1);
        s.ordered("the last place", x, 0, 1, 0, 1, 0);
        s.ordered("no place in the same tick", x, 1, 1, 0, 0, 1);
        s.due("40 tickets", x.count(1), 40);
        s.due("the last is of order 0", x.ticket(39, 0), 0);
        x.tick(1);
        s.ordered("no place in the next", x, 0, 1, 0, 1, 1);
        s.ordered("nor for the other", x, 1, 1, 0, 0, 2);
        MercuryLine y = Setup.booked(38);
        y.order(0, 1);
        y.order(1, 1);
        y.tick(1);
        s.ordered("two places: the first", y, 0, 1, 0, 1, 0);
        s.ordered("two places: the second", y, 1, 1, 0, 1, 0);
        MercuryLine z = Setup.booked(40);
        z.order(0, 2);
        z.cancel(39);
        int paid = z.count(11);
        z.tick(4);
        s.ordered("ended tickets leave no place", z, 0, 2, 0, 0, 2);
        s.due("nothing is paid", z.count(11), paid);
        s.due("40 tickets as before", z.count(1), 40);
    }

    private static void orderAheadOfBoarding() {
        Sentence s = new Sentence("A TICK", "When a tick passes, the following happens in this order");
        MercuryLine x = Setup.shortLines();
        x.setPatience(0);
        x.book(9, 3, 10, 11, 1);
        x.cancel(0);
        x.book(1, 1, 11, 10, 9);
        x.order(0, 50);
        x.tick(1);
        s.ticket("booked, and boards in the same tick", x, 2, 9, 3, 10, 11, 1, 55, 1, 1, 0, 0, 0);
        x.tick(2);
        s.ticket("gets off before its line moves", x, 1, 1, 1, 11, 10, 9, 90, 3, NONE, NONE, 0, 0, 2, 10);
        s.due("the number of the tick", x.count(0), 3);
    }

    private static void lineZeroGoesFirst() {
        Sentence s = new Sentence("A TICK", "For the line 0, then for the line 1");
        MercuryLine x = Setup.shortLines();
        x.book(1, 1, 10, 11, 1);
        x.book(2, 1, 0, 1, 1);
        x.tick(1);
        s.event("line 0", x, 1, 0, 1, 0, 0, 0);
        s.event("line 1", x, 0, 0, 0, 1, 10, 0);
    }

    private static void stationsByTheirNumbers() {
        Sentence s = new Sentence("A TICK", "for each station, by its number, with the slot that is at it");
        int[] offsets = {5, 0, 7, 3, 1, 6};
        MercuryLine x = Setup.oneLine(8, offsets);
        for (int from = 5; from >= 0; from--) {
            x.book(from, 1, from, (from + 1) % 6, 9);
        }
        x.tick(1);
        for (int station = 0; station < 6; station++) {
            s.event("station " + station, x, 5 - station, 0, 5 - station, 0, station, 0);
            s.due("its slot", x.ticket(5 - station, 8), offsets[station]);
        }
        s.due("no more events", x.event(6, 0), NONE);
    }

    private static void slotOfTheTick() {
        Sentence s = new Sentence("A TICK", "for each station, by its number, with the slot that is at it");
        MercuryLine x = Setup.oneLine(8, 6, 1);
        x.tick(7);
        x.book(1, 1, 0, 1, 1);
        x.tick(1);
        s.due("(7 + 6) % 8", x.slot(0, 5), 0);
        s.due("not yet there", x.tick(4), 0);
        s.due("in the phase 4 slot 5 is at the offset 1", x.tick(1), 1);
        s.due("its tick", x.ticket(0, 11), 12);
    }

    private static void arrivesBeforeAll() {
        Sentence s = new Sentence("A TICK", "the first of these that holds is done: "
            + "if the word goes to this station, it gets off and has arrived");
        MercuryLine x = Setup.shortLines();
        x.book(7, 1, 1, 0, 1);
        x.call(0, 7);
        s.due("it arrives, though it is called", x.tick(3), 1);
        s.calls("the call stays", x, 0, 7);
        s.station("there", x, 0, 0, 3, 0, 0, 1, 0, 0, 1);
        MercuryLine y = Setup.shortLines();
        y.book(7, 1, 1, 10, 1);
        y.setHeat(1, 10);
        y.tick(3);
        s.due("it has boarded where it goes to", y.event(0, 0), 6);
        s.due("there", y.ticket(0, 7), 1);
        s.due("it arrives, though its last lap would be used", y.tick(1), 1);
        s.ticket("arrived", y, 0, 7, 1, 1, 10, 1, 10, 3, NONE, NONE, 0, 0, 3, 10);
    }

    private static void calledOffByTheFirstCall() {
        Sentence s = new Sentence("A TICK", "if its value is one of the calls of this station, it gets off "
            + "and was called off, and the call is done (the first one with this value)");
        MercuryLine x = callsOnTheWay(5, 7, 5, 7);
        s.calls("the one between", x, 1, 7, 7);
        s.calls("the first of two", callsOnTheWay(7, 7, 5, 7), 1, 5, 7);
        s.calls("the last", callsOnTheWay(5, 7, 8, 5), 1, 7, 8);
        s.calls("the first", callsOnTheWay(5, 5, 7, 8), 1, 7, 8);
        s.calls("none is for it", callsOnTheWay(8, 5, 7, 7), 1, 5, 7, 7);
        s.calls("a 0", callsOnTheWay(0, 0), 1);
        s.ticket("called off", x, 0, 5, 1, 0, 2, 9, 90, 4, NONE, NONE, 0, 0, 4, 1);
        s.station("called off there", x, 1, 4, 1, 0, 0, 0, 1, 0, 2);
        s.event("its event", x, 0, 2, 0, 0, 1, 4);
        s.due("it has not arrived", x.count(5), 0);
        s.due("its value has not arrived", x.count(18), 0);
        MercuryLine y = Setup.oneLine(8, 0, 4, 2);
        y.book(7, 1, 0, 2, 9);
        y.book(7, 1, 0, 2, 9);
        y.call(1, 7);
        y.tick(6);
        s.due("a call is for one word: the first", y.ticket(0, 6), 4);
        s.due("a call is for one word: the second", y.ticket(1, 6), 1);
    }

    /** A word of this value has passed station 1, which had these calls, on its way from 0 to 2. */
    private static MercuryLine callsOnTheWay(int value, int... calls) {
        MercuryLine x = Setup.oneLine(8, 0, 4, 2);
        x.book(value, 1, 0, 2, 9);
        for (int call : calls) {
            x.call(1, call);
        }
        x.tick(5);
        return x;
    }

    private static void calledOffBeforeTheHall() {
        Sentence s = new Sentence("A TICK", "the first of these that holds is done");
        MercuryLine x = Setup.inState(4);
        s.ticket("called off at the junction", x, 0, 5, 1, 1, 11, 2, 20, 4, NONE, NONE, 0, 0, 2, 0);
        s.due("nobody gets into the hall", x.line(1, 6), 0);
        s.event("no event of the hall", x, 0, 2, 0, 0, 0, 2);
    }

    private static void calledOffBeforeItsLaps() {
        Sentence s = new Sentence("A TICK", "the first of these that holds is done");
        MercuryLine x = Setup.oneLine(4, 0, 2);
        x.setHeat(0, 10);
        x.book(7, 1, 1, 0, 1);
        x.call(1, 7);
        x.tick(1);
        s.ticket("it is not called off as it boards", x, 0, 7, 1, 1, 0, 1, 10, 1, 0, 2);
        x.tick(1);
        s.ticket("called off, and its last lap is left", x, 0, 7, 1, 1, 0, 1, 10, 4, NONE, NONE, 0, 0, 1, 1);
        s.due("laps used up", x.count(8), 0);
    }

    private static void hallOnlyAtStationZero() {
        Sentence s = new Sentence("A TICK", "if it goes to the other line, this is the station 0, "
            + "and the hall of the other line has less than 3 words, it gets off into this hall");
        MercuryLine x = Setup.oneLine(8, 0, 4, 6);
        x.addStation(1, 0);
        x.addStation(1, 4);
        x.book(7, 1, 2, 11, 9);
        x.tick(3);
        s.due("past station 1 it rides on", x.slot(0, 6), 0);
        x.tick(4);
        s.ticket("at station 0 it gets off into the hall of line 1, and boards", x, 0, 7, 1, 2, 11, 9, 90, 1, 1, 6);
        s.event("into the hall", x, 1, 3, 0, 0, 0, 6);
        s.event("out of the hall", x, 0, 0, 0, 1, 10, 6);
        MercuryLine y = Setup.shortLines();
        y.book(7, 1, 0, 11, 1);
        y.tick(4);
        s.ticket("where it boarded it rides a lap first", y, 0, 7, 1, 0, 11, 1, 10, 1, 0, 0);
        y.tick(1);
        s.ticket("and gets off with that lap", y, 0, 7, 1, 0, 11, 1, 10, 1, 1, 0);
    }

    private static void hallOnlyForTheOtherLine() {
        Sentence s = new Sentence("A TICK", "if it goes to the other line, this is the station 0");
        MercuryLine x = Setup.oneLine(8, 0, 4, 6);
        x.book(7, 1, 1, 2, 9);
        x.tick(6);
        s.ticket("it goes to its own line", x, 0, 7, 1, 1, 2, 9, 90, 1, 0, 4);
        s.due("nobody in the hall of line 0", x.line(0, 6), 0);
        s.due("nobody in the hall of line 1", x.line(1, 6), 0);
    }

    private static void hallWithLessThanThree() {
        Sentence s = new Sentence("A TICK", "and the hall of the other line has less than 3 words, "
            + "it gets off into this hall");
        MercuryLine x = Setup.fullHall();
        s.event("with two there, a third comes", x, 1, 3, 3, 1, 10, 5);
        s.due("three", x.line(0, 6), 3);
        x.book(4, 1, 11, 1, 9);
        x.tick(3);
        s.ticket("with three there, a fourth rides on", x, 4, 4, 1, 11, 1, 9, 90, 1, 1, 0);
        s.due("still three", x.line(0, 6), 3);
        MercuryLine y = Setup.fullHall();
        y.book(4, 1, 1, 11, 9);
        y.setHeat(0, 0);
        y.tick(1);
        s.due("three are in the hall of line 0", y.line(0, 6), 3);
        y.tick(1);
        s.ticket("the hall of line 1 is another one", y, 4, 4, 1, 1, 11, 9, 90, 1, 1, 3);
        s.due("two are left in the one of line 0", y.line(0, 6), 2);
    }

    private static void fullHallUsesLaps() {
        Sentence s = new Sentence("A TICK", "the first of these that holds is done");
        MercuryLine x = Setup.fullHall();
        x.book(4, 1, 10, 1, 1);
        x.book(5, 1, 10, 1, 2);
        x.tick(2);
        s.due("both ride", x.line(1, 5), 2);
        x.tick(3);
        s.ticket("at a full hall its last lap is used", x, 4, 4, 1, 10, 1, 0, 10, 6, NONE, NONE, 6, 6, 10, 10);
        x.tick(1);
        s.ticket("and one of two laps", x, 5, 5, 1, 10, 1, 1, 20, 1, 1, 3);
    }

    private static void boardsLineOneInTheSameTick() {
        Sentence s = new Sentence("A TICK", "(from the line 0 it can board the line 1 in the same tick;");
        MercuryLine x = Setup.shortLines();
        x.book(7, 1, 1, 11, 1);
        x.tick(2);
        s.due("in tick 1 it rides line 0", x.ticket(0, 7), 0);
        x.tick(1);
        s.ticket("in tick 2 it rides line 1", x, 0, 7, 1, 1, 11, 1, 10, 1, 1, 2, 0, 0, NONE, NONE, NONE);
        s.event("into the hall in tick 2", x, 1, 3, 0, 0, 0, 2);
        s.event("out of it in tick 2", x, 0, 0, 0, 1, 10, 2);
        MercuryLine y = Setup.shortLines();
        y.book(7, 1, 11, 1, 1);
        y.tick(3);
        s.ticket("from line 1 it cannot", y, 0, 7, 1, 11, 1, 1, 10, 2, 0, NONE, 0, 0, NONE, NONE, NONE);
        y.tick(1);
        s.ticket("in the next tick it can", y, 0, 7, 1, 11, 1, 1, 10, 1, 0, 3, 0, 0, NONE, NONE, NONE);
    }

    private static void arrivesWhenItRidesThere() {
        Sentence s = new Sentence("A TICK", "a word that goes to the station 0 of the other line gets into the hall, "
            + "too, and has arrived when it rides to this station)");
        MercuryLine x = Setup.shortLines();
        x.book(7, 1, 1, 10, 1);
        s.due("it has not arrived", x.tick(3), 0);
        s.event("it got into the hall", x, 1, 3, 0, 0, 0, 2);
        s.event("and boards", x, 0, 0, 0, 1, 10, 2);
        s.due("nor on its way", x.tick(3), 0);
        s.due("it has when it is there again", x.tick(1), 1);
        s.ticket("arrived", x, 0, 7, 1, 1, 10, 1, 10, 3, NONE, NONE, 0, 0, 6, 10, NONE);
        MercuryLine y = Setup.shortLines();
        y.book(7, 1, 10, 0, 1);
        s.due("from junction to junction", y.tick(5), 0);
        s.ticket("in the hall of line 0", y, 0, 7, 1, 10, 0, 1, 10, 2, 0, NONE);
        s.due("it rides a lap", y.tick(4), 0);
        s.due("and has arrived", y.tick(1), 1);
        s.ticket("arrived", y, 0, 7, 1, 10, 0, 1, 10, 3, NONE, NONE, 0, 0, 9, 0, NONE);
    }

    private static void lapOnlyWhereItBoarded() {
        Sentence s = new Sentence("A TICK",
            "if it boarded this line at this station (in an earlier tick; the line may have paused since), "
            + "one of its laps is used");
        MercuryLine x = Setup.oneLine(4, 1, 3, 0);
        x.setHeat(0, -10);
        x.book(7, 1, 0, 2, 3);
        int[] left = {3, 3, 2, 2, 1, 1};
        for (int tick = 0; tick < left.length; tick++) {
            x.tick(1);
            s.due("laps left after tick " + tick, x.ticket(0, 4), left[tick]);
        }
        s.due("it passed station 1 as often, and rides still", x.ticket(0, 6), 1);
        MercuryLine y = Setup.shortLines();
        y.addStation(1, 1);
        y.book(7, 1, 1, 12, 1);
        y.tick(5);
        s.ticket("it boarded line 0 at station 1, and has passed station 11", y, 0, 7, 1, 1, 12, 1, 10, 1, 1, 2);
        s.due("it arrives with its lap", y.tick(1), 1);
        s.due("laps left", y.ticket(0, 4), 1);
    }

    private static void lapOnlyInALaterTick() {
        Sentence s = new Sentence("A TICK", "(in an earlier tick; the line may have paused since)");
        MercuryLine x = Setup.oneLine(4, 0, 2);
        x.setHeat(0, 10);
        x.book(7, 1, 0, 1, 1);
        x.tick(1);
        s.ticket("in the tick in which it boards no lap is used", x, 0, 7, 1, 0, 1, 1, 10, 1, 0, 0);
        x.setHeat(0, 0);
        x.tick(1);
        s.ticket("in the next it is", x, 0, 7, 1, 0, 1, 0, 10, 6, NONE, NONE, 0, 0, 1, 0);
    }

    private static void lapInAPause() {
        Sentence s = new Sentence("A TICK", "the line may have paused since), one of its laps is used");
        MercuryLine x = Setup.oneLine(4, 0, 2);
        x.setHeat(0, 10);
        x.book(7, 1, 0, 1, 9);
        for (int left = 9; left >= 1; left--) {
            x.tick(1);
            s.due("laps left in a pause", x.ticket(0, 4), left);
            s.due("it rides", x.ticket(0, 6), 1);
        }
        x.tick(1);
        s.ticket("the ninth", x, 0, 7, 1, 0, 1, 0, 90, 6, NONE, NONE, 0, 0, 9, 0);
        MercuryLine y = Setup.shortLines();
        y.setHeat(1, 10);
        y.book(7, 1, 1, 11, 2);
        y.tick(3);
        s.due("it has boarded line 1 from its hall", y.ticket(0, 4), 2);
        y.tick(1);
        s.due("a pause there uses one, too", y.ticket(0, 4), 1);
    }

    private static void lastLap() {
        Sentence s = new Sentence("A TICK", "and if none is left then, it is put out");
        for (int laps = 1; laps <= 2; laps++) {
            MercuryLine y = Setup.oneLine(4, 0, 1);
            y.setHeat(0, -10);
            y.book(7, 3, 0, 1, laps);
            y.tick(2 * laps);
            s.due("a tick before, laps " + laps, y.ticket(0, 6), 1);
            s.due("one is left", y.ticket(0, 4), 1);
            y.tick(1);
            s.ticket("put out", y, 0, 7, 3, 0, 1, 0, 30 * laps + 25, 6, NONE, NONE, 0, 0, 2 * laps, 0, NONE);
            s.event("its event", y, 1, 4, 0, 0, 0, 2 * laps);
            s.due("its slot is empty", y.slot(0, 0), NONE);
            s.due("refunded", y.count(13), 30 * laps + 25);
        }
    }

    private static void boardsAnEmptySlot() {
        Sentence s = new Sentence("A TICK", "If the slot is empty then, the first of the hall of this line boards "
            + "if this is the station 0 and there is one, otherwise the first that waits at this station, "
            + "if there is one.");
        MercuryLine x = Setup.inState(2);
        x.book(9, 3, 0, 1, 1);
        x.tick(1);
        s.due("the hall, though the station has a greater class", x.slot(0, 3), 0);
        x.tick(1);
        s.due("the station, when the hall is empty", x.slot(0, 0), 1);
        s.station("both have boarded there", x, 0, 0, 1, 0, 2, 0, 0, 0, 0, NONE);
        s.event("of the station", x, 0, 0, 1, 0, 0, 4);
        s.event("of the hall", x, 1, 0, 0, 0, 0, 3);
    }

    private static void boardsASlotThatWasLeft() {
        Sentence s = new Sentence("A TICK", "If the slot is empty then");
        MercuryLine arrives = Setup.shortLines();
        arrives.book(1, 3, 1, 0, 1);
        arrives.tick(2);
        arrives.book(2, 1, 0, 1, 1);
        arrives.tick(1);
        s.due("one has arrived", arrives.ticket(0, 6), 3);
        s.due("its slot is taken", arrives.slot(0, 2), 1);
        MercuryLine called = Setup.shortLines();
        called.book(1, 3, 1, 11, 1);
        called.call(0, 1);
        called.tick(2);
        called.book(2, 1, 0, 1, 1);
        called.tick(1);
        s.due("one was called off", called.ticket(0, 6), 4);
        s.due("its slot is taken", called.slot(0, 2), 1);
        MercuryLine changes = Setup.shortLines();
        changes.book(1, 3, 1, 11, 1);
        changes.tick(2);
        changes.book(2, 1, 0, 1, 1);
        changes.tick(1);
        s.due("one changed lines", changes.ticket(0, 7), 1);
        s.due("its slot is taken", changes.slot(0, 2), 1);
        MercuryLine used = Setup.oneLine(4, 0, 1);
        used.setHeat(0, 10);
        used.book(1, 3, 0, 1, 1);
        used.tick(1);
        used.book(2, 1, 0, 1, 1);
        used.tick(1);
        s.due("one has used its laps up", used.ticket(0, 6), 6);
        s.due("its slot is taken", used.slot(0, 0), 1);
    }

    private static void boardsFromTheHallOnlyAtStationZero() {
        Sentence s = new Sentence("A TICK", "the first of the hall of this line boards if this is the station 0 "
            + "and there is one, otherwise the first that waits at this station, if there is one");
        MercuryLine x = Setup.fullHall();
        x.book(7, 1, 2, 0, 9);
        s.due("the one that waits is next at station 2", x.station(2, 8), 4);
        s.due("nobody is next at station 1", x.station(1, 8), NONE);
        s.due("the hall is at station 0", x.station(0, 8), 1);
        s.due("the hall of line 1 is empty", x.station(10, 8), NONE);
        x.tick(1);
        s.due("it boards", x.ticket(4, 6), 1);
        s.due("three are in the hall", x.line(0, 6), 3);
    }

    private static void boardsNobody() {
        Sentence s = new Sentence("A TICK", "otherwise the first that waits at this station, if there is one");
        MercuryLine x = Setup.shortLines();
        x.book(1, 1, 1, 0, 1);
        x.tick(1);
        s.due("nobody waited at station 0", x.slot(0, 0), NONE);
        s.due("one waited at station 1", x.slot(0, 2), 0);
        s.due("one event", x.event(1, 0), NONE);
        MercuryLine y = Setup.shortLines();
        y.tick(60);
        s.due("no event", y.event(0, 0), NONE);
        s.due("nobody rides line 0", y.line(0, 5), 0);
        s.due("nobody rides line 1", y.line(1, 5), 0);
    }

    /** Ticket 0 of a class rides past station 1, at which ticket 1 of another class has just been booked. */
    private static MercuryLine meeting(int rider, int other) {
        MercuryLine x = Setup.oneLine(4, 0, 3, 2);
        x.setPatience(0);
        x.book(1, rider, 0, 2, 5);
        x.tick(1);
        x.book(2, other, 1, 0, 5);
        x.tick(1);
        return x;
    }

    private static void shovesALesserClass() {
        Sentence s = new Sentence("A TICK", "If the slot is not empty in b., and the one that would board there is "
            + "of a greater class than the word in the slot");
        for (int rider = 1; rider <= 3; rider++) {
            for (int other = 1; other <= 3; other++) {
                MercuryLine x = meeting(rider, other);
                String when = "class " + other + " meets class " + rider;
                s.due(when, x.slot(0, 0), other > rider ? 1 : 0);
                s.due(when + ", state of the rider", x.ticket(0, 6), other > rider ? 5 : 1);
                s.due(when + ", state of the other", x.ticket(1, 6), other > rider ? 1 : 0);
                s.due(when + ", by whom", x.ticket(0, 13), other > rider ? 1 : NONE);
                s.due(when + ", shoved out there", x.station(1, 6), other > rider ? 1 : 0);
                s.due(when + ", boarded there", x.station(1, 3), other > rider ? 1 : 0);
            }
        }
        MercuryLine x = meeting(1, 3);
        s.event("shoved out", x, 1, 5, 0, 0, 1, 1);
        s.event("boards", x, 0, 0, 1, 0, 1, 1);
        s.ticket("shoved out", x, 0, 1, 1, 0, 2, 5, 50, 5, NONE, NONE, 0, 0, 1, 1, 1);
    }

    /** Ticket 0 of class 1 stands at station 0 of a line that pauses; ticket 1 of class 2 came there in tick 1. */
    private static MercuryLine besieged(int patience) {
        MercuryLine x = Setup.oneLine(8, 0, 4);
        x.setPatience(patience);
        x.book(1, 1, 1, 0, 9);
        x.tick(1);
        x.setHeat(0, 10);
        x.addStation(0, 3);
        x.book(2, 2, 2, 0, 1);
        return x;
    }

    private static void shovesWithPatience() {
        Sentence s = new Sentence("A TICK", "and has waited there for at least as many ticks as the patience "
            + "(0 to 50, at first 3), the word in the slot is shoved out, and that one boards.");
        for (int patience : new int[] {0, 1, 2, 3, 4, 49, 50}) {
            MercuryLine x = besieged(patience);
            s.due("the patience", x.count(16), patience);
            s.due("it stands there", x.station(2, 1), 4);
            if (patience > 0) {
                x.tick(patience);
                s.due("it has waited " + (patience - 1), x.slot(0, 4), 0);
                s.due("nobody is shoved out", x.count(7), 0);
            }
            x.tick(1);
            s.due("it has waited " + patience, x.slot(0, 4), 1);
            s.ticket("shoved out", x, 0, 1, 1, 1, 0, 9, 90, 5, NONE, NONE, 0, 0, 1 + patience, 2, 1);
        }
        MercuryLine x = Setup.oneLine(8, 0, 4);
        s.due("at first", x.count(16), 3);
        s.unchanged("-1", MercuryLine::new, y -> y.setPatience(-1), BAD_VALUE);
        s.unchanged("51", MercuryLine::new, y -> y.setPatience(51), BAD_VALUE);
    }

    private static void shovesWithTheGreatestPatience() {
        Sentence s = new Sentence("A TICK", "has waited there for at least as many ticks as the patience (0 to 50");
        MercuryLine x = besieged(50);
        x.tick(49);
        s.due("the next who would board", x.station(2, 8), 1);
        s.queue("it waits", x, 2, 1);
        x.setPatience(49);
        x.tick(1);
        s.due("waited 49, where 49 are asked now", x.slot(0, 4), 1);
        MercuryLine y = besieged(3);
        y.tick(3);
        y.setPatience(50);
        y.tick(47);
        s.due("waited 49, where 50 are asked", y.slot(0, 4), 0);
        y.tick(1);
        s.due("waited 50", y.slot(0, 4), 1);
    }

    private static void shovesAtOnceWithoutPatience() {
        Sentence s = new Sentence("A TICK", "has waited there for at least as many ticks as the patience (0 to 50");
        MercuryLine x = Setup.oneLine(4, 0, 3, 2);
        x.setPatience(0);
        x.book(2, 3, 1, 0, 5);
        x.cancel(0);
        x.book(1, 1, 0, 2, 5);
        x.tick(1);
        x.order(0, 50);
        x.tick(1);
        s.due("booked by an order in the same tick", x.slot(0, 0), 2);
        s.ticket("shoved out", x, 1, 1, 1, 0, 2, 5, 50, 5, NONE, NONE, 0, 0, 1, 1, 2);
        MercuryLine y = Setup.oneLine(4, 0, 3, 2);
        y.setPatience(1);
        y.book(2, 3, 1, 0, 5);
        y.cancel(0);
        y.book(1, 1, 0, 2, 5);
        y.tick(1);
        y.order(0, 50);
        y.tick(1);
        s.due("not with a patience of 1", y.slot(0, 0), 1);
    }

    private static void shovesFromTheHall() {
        Sentence s = new Sentence("A TICK",
            "the one that would board there is of a greater class than the word in the slot");
        MercuryLine x = Setup.blockedJunction(1);
        x.book(1, 2, 11, 1, 9);
        x.tick(3);
        s.due("it has come into the hall in tick 3", x.ticket(1, 6), 2);
        x.tick(2);
        s.ticket("in tick 5 it has waited 2", x, 0, 90, 1, 1, 2, 9, 90, 1, 0, 1);
        x.tick(1);
        s.ticket("in tick 6 it has waited 3", x, 0, 90, 1, 1, 2, 9, 90, 5, NONE, NONE, 0, 0, 6, 0, 1);
        s.ticket("the one of the hall rides", x, 1, 1, 2, 11, 1, 9, 180, 1, 0, 1);
        s.due("the hall is empty", x.line(0, 6), 0);
    }

    private static void shovesBehindALap() {
        Sentence s = new Sentence("A TICK", "If the slot is not empty in b.");
        for (int laps = 1; laps <= 2; laps++) {
            MercuryLine x = Setup.oneLine(4, 0, 1);
            x.setHeat(0, 10);
            x.setPatience(0);
            x.book(1, 1, 0, 1, laps);
            x.tick(1);
            x.book(2, 2, 0, 1, 9);
            x.tick(1);
            s.due("the other one rides, laps " + laps, x.slot(0, 0), 1);
            s.ticket("its last lap is used first, or one of two", x, 0, 1, 1, 0, 1, laps - 1, 10 * laps,
                laps == 1 ? 6 : 5, NONE, NONE, 0, 0, 1, 0, laps == 1 ? NONE : 1);
        }
    }

    /** A line of 8 slots with a drift and then a heat, a tick later: its phase, drift, pauses and skips. */
    private static int[] moved(int drift, int heat) {
        MercuryLine x = new MercuryLine();
        x.setHeat(1, drift);
        x.tick(1);
        x.setHeat(1, heat);
        x.tick(1);
        return new int[] {x.line(1, 1), x.line(1, 2) - 100, x.line(1, 7), x.line(1, 8)};
    }

    private static void movesSo(Sentence s, int drift, int heat, int... due) {
        int[] told = moved(drift, heat);
        for (int i = 0; i < due.length; i++) {
            s.due("drift " + drift + ", heat " + heat + ": " + i, told[i], due[i]);
        }
    }

    private static void driftOfTen() {
        Sentence s = new Sentence("A TICK", "its heat is added to its drift. If the drift is 10 or more then, "
            + "it becomes less by 10, and the line pauses (its phase stays).");
        movesSo(s, 9, 0, 2, 9, 0, 0);
        movesSo(s, 8, 1, 2, 9, 0, 0);
        movesSo(s, 9, 1, 1, 0, 1, 0);
        movesSo(s, 9, 2, 1, 1, 1, 0);
        movesSo(s, 9, 10, 1, 9, 1, 0);
        movesSo(s, 1, 9, 1, 0, 1, 0);
        movesSo(s, 0, 10, 1, 0, 1, 0);
        movesSo(s, 0, 9, 2, 9, 0, 0);
        movesSo(s, -1, 10, 2, 9, 0, 0);
        movesSo(s, -9, 10, 2, 1, 0, 0);
    }

    private static void driftOfMinusTen() {
        Sentence s = new Sentence("A TICK", "If it is -10 or less, it becomes greater by 10, and the line skips: "
            + "its phase becomes (phase + 2) % slots. Otherwise its phase becomes (phase + 1) % slots.");
        movesSo(s, -9, 0, 2, -9, 0, 0);
        movesSo(s, -8, -1, 2, -9, 0, 0);
        movesSo(s, -9, -1, 3, 0, 0, 1);
        movesSo(s, -9, -2, 3, -1, 0, 1);
        movesSo(s, -9, -10, 3, -9, 0, 1);
        movesSo(s, -1, -9, 3, 0, 0, 1);
        movesSo(s, 0, -10, 3, 0, 0, 1);
        movesSo(s, 0, -9, 2, -9, 0, 0);
        movesSo(s, 1, -10, 2, -9, 0, 0);
        movesSo(s, 9, -10, 2, -1, 0, 0);
    }

    private static void phasesAroundTheEnd() {
        Sentence s = new Sentence("A TICK", "its phase becomes (phase + 2) % slots. "
            + "Otherwise its phase becomes (phase + 1) % slots.");
        int[][] due = {{8, 6, -10, 0}, {8, 7, -10, 1}, {8, 7, 1, 0}, {8, 7, 10, 7}, {8, 5, -10, 7},
            {24, 22, -10, 0}, {24, 23, -10, 1}, {24, 23, 1, 0}, {3, 1, -10, 0}, {3, 2, -10, 1}};
        for (int[] row : due) {
            MercuryLine x = Setup.oneLine(row[0], 0);
            x.tick(row[1]);
            x.setHeat(0, row[2]);
            x.tick(1);
            s.due(row[0] + " slots, phase " + row[1] + ", heat " + row[2], x.line(0, 1), row[3]);
            s.due("the slot at the offset 0", x.station(0, 1), row[3]);
        }
        MercuryLine x = Setup.oneLine(2, 0);
        x.setHeat(0, -10);
        x.tick(3);
        s.line("a skip on two slots leads to the same phase", x, 0, 2, 0, 100, 90, 1, 0, 0, 0, 3);
        x.setHeat(0, 10);
        x.tick(3);
        s.line("so does a pause", x, 0, 2, 0, 100, 110, 1, 0, 0, 3, 3);
    }

    private static void bothLinesMove() {
        Sentence s = new Sentence("A TICK", "For the line 0, then for the line 1: its heat is added to its drift.");
        MercuryLine x = Setup.shortLines();
        x.setHeat(1, 10);
        x.setHeat(0, -10);
        x.book(1, 1, 10, 11, 1);
        x.tick(1);
        s.event("line 1, behind it", x, 0, 6, NONE, 1, NONE, 0);
        s.event("line 0, behind all boarding", x, 1, 7, NONE, 0, NONE, 0);
        s.event("boarding", x, 2, 0, 0, 1, 10, 0);
        s.line("line 0", x, 0, 4, 2, 100, 90, 2, 0, 0, 0, 1);
        s.line("line 1", x, 1, 4, 0, 100, 110, 2, 1, 0, 1, 0);
    }

    private static void tickNumber() {
        Sentence s = new Sentence("A TICK", "The number of the tick becomes greater by 1.");
        MercuryLine x = Setup.shortLines();
        s.due("at first", x.count(0), 0);
        x.setHeat(0, 10);
        x.setHeat(1, -10);
        int passed = 0;
        for (int ticks : new int[] {1, 60, 1, 59, 2}) {
            x.tick(ticks);
            passed += ticks;
            s.due("after " + passed, x.count(0), passed);
        }
        x.book(1, 1, 0, 1, 1);
        s.due("a ticket is booked in it", x.ticket(0, 9), passed);
    }

    private static void keepsItsLapsFromTheHall() {
        Sentence s = new Sentence("A TICK", "A word that boards at the junction from a hall keeps the laps "
            + "that it has left; it has boarded that line at the station 0.");
        MercuryLine x = Setup.oneLine(4, 0, 2);
        x.addStation(1, 0);
        x.addStation(1, 4);
        x.setHeat(0, 10);
        x.book(7, 1, 1, 11, 4);
        x.tick(3);
        s.due("two laps are used on line 0", x.ticket(0, 4), 2);
        x.setHeat(0, 0);
        x.setHeat(1, 10);
        x.tick(3);
        s.ticket("on line 1, with a third used before", x, 0, 7, 1, 1, 11, 1, 40, 1, 1, 3, 0, 0);
        x.tick(1);
        s.ticket("at its station 0 the last is used", x, 0, 7, 1, 1, 11, 0, 40, 6, NONE, NONE, 0, 0, 6, 10);
        s.station("boarded there", x, 10, 0, 3, 0, 1, 0, 0, 0, 0, NONE);
    }

    private static void waitsSinceItCame() {
        Sentence s = new Sentence("A TICK", "A word has waited as many ticks as the number of the tick is greater "
            + "than the one in which it came there (was booked, or got into the hall).");
        MercuryLine x = Setup.blockedJunction(2);
        x.setPatience(5);
        x.book(1, 3, 11, 1, 9);
        x.tick(3);
        s.due("booked in tick 1", x.ticket(1, 9), 1);
        s.event("in the hall since tick 3", x, 1, 3, 1, 1, 10, 3);
        x.tick(4);
        s.due("in tick 7 it has waited 4 there", x.ticket(0, 6), 1);
        x.tick(1);
        s.due("in tick 8 it has waited 5", x.ticket(0, 6), 5);
        s.due("its tick", x.ticket(0, 11), 8);
        MercuryLine y = besieged(2);
        s.due("booked in tick 1", y.ticket(1, 9), 1);
        y.tick(2);
        s.due("in tick 2 it has waited 1", y.ticket(0, 6), 1);
        y.tick(1);
        s.due("in tick 3 it has waited 2", y.ticket(0, 6), 5);
    }

    private static void ticksRange() {
        Sentence s = new Sentence("Promise 14", "ticks: 1 to 60");
        for (int ticks : new int[] {Integer.MIN_VALUE, -60, -1, 0, 61, 62, Integer.MAX_VALUE}) {
            s.unchanged("tick(" + ticks + ")", () -> Setup.inState(1), x -> x.tick(ticks), BAD_VALUE);
        }
        s.act("tick(1)", () -> Setup.inState(0), x -> x.tick(1), 0);
        s.act("tick(60)", () -> Setup.inState(0), x -> x.tick(60), 1);
        MercuryLine x = new MercuryLine();
        x.tick(60);
        s.line("60 ticks on 8 slots", x, 0, 8, 4, 100, 100);
        s.due("60 ticks", x.count(0), 60);
    }

    private static void ticksReturn() {
        Sentence s = new Sentence("Promise 14", "Returns how many words arrive in them; BAD_VALUE.");
        s.due("nobody is there", new MercuryLine().tick(60), 0);
        s.due("one is called off", arrivals(4), 0);
        s.due("one is shoved out, the other arrives later", arrivals(5), 0);
        s.due("one's laps are used up", arrivals(6), 0);
        MercuryLine x = Setup.booked(40);
        s.due("the first arrives in tick 4", x.tick(5), 1);
        s.due("one in each tick", x.tick(1), 1);
        s.due("all that are left", x.tick(60), 38);
        s.due("all have arrived", x.count(5), 40);
        s.due("none is left", x.tick(60), 0);
        MercuryLine y = Setup.shortLines();
        y.book(1, 1, 0, 1, 1);
        y.book(2, 1, 11, 10, 1);
        s.due("one on each line", y.tick(3), 2);
        MercuryLine z = Setup.shortLines();
        z.book(1, 1, 1, 11, 1);
        s.due("who gets into a hall has not arrived", z.tick(3), 0);
        s.due("it arrives later", z.tick(2), 1);
    }

    /** How many have arrived on the way to a state. */
    private static int arrivals(int state) {
        return Setup.inState(state).count(5);
    }

    private static void ticksAreOneAct() {
        Sentence s = new Sentence("Promise 14", "Lets ticks pass. This is an act.");
        s.act("60 ticks", () -> Setup.booked(1), x -> x.tick(60), 1);
        s.act("none arrives", Setup::twoLines, x -> x.tick(3), 0);
        MercuryLine x = new MercuryLine();
        x.tick(60);
        s.due("one state is recorded for all", x.count(19), 1);
        s.due("it is the one before them", x.undo(), 0);
        s.due("all are undone", x.count(0), 0);
    }
}
