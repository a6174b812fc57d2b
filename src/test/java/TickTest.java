/** Promise 14: what happens in a tick, in its order. */
public final class TickTest {
    private static final int BAD_VALUE = MercuryLine.BAD_VALUE;
    private static final int NONE = MercuryLine.NONE;

    public static void main(String[] args) {
        range();
        arrivals();
        whoBoards();
        arrivingGoesAheadOfCalls();
        callsGoAheadOfLaps();
        callsOnTheWay();
        lapsAreUsed();
        lapsAndPauses();
        laterStationsSeeWhatEarlierDid();
        changingFromLineZero();
        changingFromLineOne();
        toTheJunctionOfTheOtherLine();
        theHallGoesFirst();
        theHallShieldsTheRider();
        aFullHall();
        lapsKeptInTheHall();
        shovingOut();
        shovingByClass();
        shovingNeedsPatience();
        shovingAfterALap();
        patienceInTheHall();
        heat();
        aSkippedStation();
        ordersInATick();
        ordersWithoutRoom();
        Check.end("TickTest");
    }

    /** Both lines of four slots with stations at the offsets 0 and 2. */
    private static MercuryLine twoLines() {
        MercuryLine x = Setup.oneLine(4, 0, 2);
        x.build(1, 4);
        x.addStation(1, 0);
        x.addStation(1, 2);
        return x;
    }

    private static void event(MercuryLine x, int back, int... due) {
        for (int what = 0; what < due.length; what++) {
            Check.due("14: event(" + back + ", " + what + ")", x.event(back, what), due[what]);
        }
    }

    private static void range() {
        MercuryLine x = new MercuryLine();
        Check.due("14: 0 ticks", x.tick(0), BAD_VALUE);
        Check.due("14: 61 ticks", x.tick(61), BAD_VALUE);
        Check.due("14: -1 ticks", x.tick(-1), BAD_VALUE);
        Check.due("14: none passed", x.count(0), 0);
        Check.due("14: not recorded", x.count(19), 0);
        Check.due("14: 60 ticks", x.tick(60), 0);
        Check.due("14: they passed", x.count(0), 60);
        Check.due("14: recorded once", x.count(19), 1);
        Check.due("14: phase", x.line(0, 1), 4);
        Check.due("14: undo", x.undo(), 0);
        Check.due("14: undone", x.count(0), 0);
    }

    private static void arrivals() {
        MercuryLine x = Setup.oneLine(8, 0, 3, 5);
        x.book(6, 1, 0, 1, 1);
        x.book(3, 2, 2, 1, 1);
        Check.due("14: ticket 1 boards slot 5, ticket 0 slot 0", x.tick(1), 0);
        event(x, 0, 0, 1, 0, 2, 0);
        event(x, 1, 0, 0, 0, 0, 0);
        Check.due("14: ticket 1 gets off in tick 2", x.tick(2), 1);
        event(x, 0, 1, 1, 0, 1, 2);
        Check.due("14: its station", x.ticket(1, 12), 1);
        Check.due("14: ticket 0 gets off in tick 5", x.tick(3), 1);
        Check.due("14: exclusive or", x.count(18), 5);
        Check.due("14: earned", x.count(12), 30);
        Check.due("14: arrived there", x.station(1, 4), 2);
        Check.due("14: nobody rides", x.line(0, 5), 0);
        x.book(6, 1, 0, 1, 1);
        x.book(5, 1, 2, 1, 1);
        Check.due("14: two in one call", x.tick(60), 2);
    }

    private static void whoBoards() {
        MercuryLine x = Setup.oneLine(8, 0, 4);
        int[] kinds = {1, 3, 2, 3, 1};
        for (int kind : kinds) {
            x.book(1, kind, 0, 1, 9);
        }
        int[] turns = {1, 3, 2, 0, 4};
        for (int tick = 0; tick < turns.length; tick++) {
            x.tick(1);
            Check.due("14: boards in tick " + tick, x.slot(0, tick), turns[tick]);
            Check.due("14: since", x.ticket(turns[tick], 10), tick);
        }
        Check.due("14: boarded", x.station(0, 3), 5);
    }

    private static void arrivingGoesAheadOfCalls() {
        MercuryLine x = Setup.oneLine(8, 0, 3);
        x.book(7, 1, 0, 1, 1);
        x.call(1, 7);
        x.tick(6);
        Check.due("14: arrived", x.ticket(0, 6), 3);
        Check.due("14: the call stays", x.station(1, 7), 1);
    }

    private static void callsGoAheadOfLaps() {
        MercuryLine x = Setup.oneLine(4, 0, 1);
        x.setHeat(0, 10);
        x.book(7, 1, 1, 0, 1);
        x.call(1, 5);
        x.call(1, 7);
        x.call(1, 7);
        Check.due("14: a word that is called off has not arrived", x.tick(2), 0);
        Check.due("14: called off where it boarded", x.ticket(0, 6), 4);
        Check.due("14: its station", x.ticket(0, 12), 1);
        Check.due("14: its lap is left", x.ticket(0, 4), 1);
        Check.due("14: refunded", x.count(13), 10);
        Check.due("14: called off there", x.station(1, 5), 1);
        Check.due("14: no value has arrived", x.count(18), 0);
        Check.due("14: two calls are left", x.station(1, 7), 2);
        Check.due("14: the first call stays", x.calls(1, 0), 5);
        Check.due("14: one for 7 stays", x.calls(1, 1), 7);
        event(x, 1, 2, 0, 0, 1, 1);
    }

    private static void callsOnTheWay() {
        MercuryLine x = Setup.oneLine(8, 0, 3, 5);
        x.book(6, 1, 0, 1, 1);
        x.call(2, 6);
        x.call(0, 6);
        x.tick(3);
        Check.due("14: it rides until tick 3", x.ticket(0, 6), 1);
        x.tick(1);
        Check.due("14: called off on its way", x.ticket(0, 12), 2);
        Check.due("14: where it boarded the call stays", x.station(0, 7), 1);
        MercuryLine y = twoLines();
        y.book(7, 1, 1, 11, 2);
        y.call(0, 7);
        y.tick(3);
        Check.due("14: calls go ahead of the hall", y.ticket(0, 6), 4);
    }

    /** Of four slots a line that always skips passes two in turn: station 1 is never reached. */
    private static void lapsAreUsed() {
        MercuryLine x = Setup.oneLine(4, 0, 1, 2);
        x.setHeat(0, -10);
        x.book(7, 2, 0, 1, 3);
        int[] left = {3, 3, 2, 2, 1, 1, 0};
        for (int tick = 0; tick < left.length; tick++) {
            x.tick(1);
            Check.due("14: laps left after tick " + tick, x.ticket(0, 4), left[tick]);
        }
        Check.due("14: state", x.ticket(0, 6), 6);
        Check.due("14: tick of the end", x.ticket(0, 11), 6);
        Check.due("14: station of the end", x.ticket(0, 12), 0);
        Check.due("14: refunded", x.count(13), 60);
    }

    private static void lapsAndPauses() {
        MercuryLine x = Setup.oneLine(4, 0, 2);
        x.setHeat(0, 10);
        x.book(7, 3, 0, 1, 3);
        x.tick(1);
        Check.due("14: none is used where it boards", x.ticket(0, 4), 3);
        x.tick(2);
        Check.due("14: one is used in each pause", x.ticket(0, 4), 1);
        x.tick(1);
        Check.due("14: the last", x.ticket(0, 6), 6);
        Check.due("14: laps left", x.ticket(0, 4), 0);
        Check.due("14: station", x.ticket(0, 12), 0);
        Check.due("14: tick", x.ticket(0, 11), 3);
        Check.due("14: refunded", x.count(13), 115);
        event(x, 0, 6, NONE, 0, NONE, 3);
        event(x, 1, 4, 0, 0, 0, 3);
        x.setHeat(0, 0);
        x.book(7, 1, 0, 1, 1);
        x.book(8, 1, 0, 1, 1);
        x.setHeat(0, 10);
        x.tick(2);
        Check.due("14: the next boards where one is put out", x.slot(0, 0), 2);
        Check.due("14: the one before", x.ticket(1, 6), 6);
    }

    private static void laterStationsSeeWhatEarlierDid() {
        MercuryLine x = Setup.oneLine(2, 1, 0);
        x.book(1, 1, 0, 1, 1);
        x.book(2, 3, 1, 0, 1);
        x.tick(1);
        event(x, 1, 0, 0, 0, 0, 0);
        event(x, 0, 0, 1, 0, 1, 0);
        Check.due("14: both arrive in the next tick", x.tick(1), 2);
        event(x, 1, 1, 1, 0, 0, 1);
        event(x, 0, 1, 0, 0, 1, 1);
    }

    private static void changingFromLineZero() {
        MercuryLine x = twoLines();
        x.book(7, 1, 1, 11, 2);
        x.tick(2);
        Check.due("14: it rides line 0", x.ticket(0, 7), 0);
        x.tick(1);
        Check.due("14: it boards line 1 in the same tick", x.ticket(0, 7), 1);
        event(x, 0, 0, 0, 1, 10, 2);
        event(x, 1, 3, 0, 0, 0, 2);
        Check.due("14: the tick in which it first boarded", x.ticket(0, 10), 0);
        Check.due("14: boarded at the junction, from the hall", x.station(10, 3), 1);
        Check.due("14: slot", x.ticket(0, 8), 2);
        Check.due("14: arrives", x.tick(2), 1);
        Check.due("14: there", x.ticket(0, 12), 11);
        Check.due("14: tick", x.ticket(0, 11), 4);
    }

    private static void changingFromLineOne() {
        MercuryLine x = twoLines();
        x.book(7, 1, 11, 1, 2);
        x.tick(3);
        Check.due("14: in the hall of line 0", x.ticket(0, 6), 2);
        Check.due("14: of that line", x.ticket(0, 7), 0);
        Check.due("14: in no slot", x.ticket(0, 8), NONE);
        event(x, 0, 3, 0, 1, 10, 2);
        Check.due("14: hall 0", x.line(0, 6), 1);
        Check.due("14: hall 1", x.line(1, 6), 0);
        Check.due("14: it does not wait at the station", x.station(0, 2), 0);
        Check.due("14: it is next there", x.station(0, 8), 0);
        Check.due("14: nor at the other junction", x.station(10, 8), NONE);
        x.tick(1);
        Check.due("14: it boards in the next tick", x.ticket(0, 6), 1);
        Check.due("14: it is not held", x.line(0, 6), 0);
        event(x, 0, 0, 0, 0, 0, 3);
    }

    private static void toTheJunctionOfTheOtherLine() {
        MercuryLine x = twoLines();
        x.book(7, 1, 1, 10, 1);
        Check.due("14: getting into the hall is no arrival", x.tick(3), 0);
        Check.due("14: it rides line 1", x.ticket(0, 7), 1);
        Check.due("14: nor on the way", x.tick(3), 0);
        Check.due("14: it arrives when it rides there", x.tick(1), 1);
        Check.due("14: station", x.ticket(0, 12), 10);
        Check.due("14: tick", x.ticket(0, 11), 6);
        Check.due("14: with its lap", x.ticket(0, 4), 1);
    }

    private static void theHallGoesFirst() {
        MercuryLine x = twoLines();
        x.book(1, 1, 11, 1, 9);
        x.tick(3);
        x.book(2, 3, 0, 1, 9);
        Check.due("14: who waits at the station", x.waiting(0, 0), 1);
        Check.due("14: who boards there", x.station(0, 8), 0);
        x.tick(1);
        Check.due("14: the hall boards first", x.slot(0, 3), 0);
        Check.due("14: the station waits, in spite of its class", x.ticket(1, 6), 0);
        x.tick(1);
        Check.due("14: it boards when the hall is empty", x.slot(0, 0), 1);
        theHallGoesByClass();
    }

    private static void theHallGoesByClass() {
        MercuryLine x = stuckAtTheJunction(3);
        x.book(1, 1, 11, 1, 9);
        x.book(2, 2, 11, 1, 9);
        x.book(3, 2, 11, 1, 9);
        x.tick(5);
        Check.due("14: three are in the hall", x.line(0, 6), 3);
        x.setPatience(50);
        x.drain(0);
        int[] turns = {2, 3, 1};
        for (int ticket : turns) {
            x.tick(1);
            Check.due("14: by class, then by number", x.slot(0, 1), ticket);
            x.cancel(ticket);
        }
    }

    /**
     * Both lines, with a word of a class, ticket 0, in the slot 1 of line 0: that slot stays at
     * the junction, and the word has not boarded there.
     */
    private static MercuryLine stuckAtTheJunction(int kind) {
        MercuryLine x = Setup.oneLine(3, 0, 1, 2);
        x.build(1, 4);
        x.addStation(1, 0);
        x.addStation(1, 2);
        x.book(90, kind, 1, 2, 9);
        x.tick(1);
        x.setHeat(0, 10);
        return x;
    }

    /** One of class 1 in the hall keeps one of class 3 at the station from shoving a rider out. */
    private static void theHallShieldsTheRider() {
        MercuryLine x = stuckAtTheJunction(1);
        x.setPatience(0);
        x.book(1, 1, 11, 1, 9);
        x.tick(3);
        x.book(2, 3, 0, 1, 9);
        x.tick(5);
        Check.due("14: it rides on", x.ticket(0, 6), 1);
        Check.due("14: the hall waits", x.ticket(1, 6), 2);
        Check.due("14: the station waits", x.ticket(2, 6), 0);
        x.cancel(1);
        x.tick(1);
        Check.due("14: nobody shields it any more", x.ticket(0, 13), 2);
    }

    private static void aFullHall() {
        MercuryLine x = stuckAtTheJunction(3);
        int[] kinds = {1, 2, 1, 3};
        for (int kind : kinds) {
            x.book(kind, kind, 11, 1, 9);
        }
        x.tick(2);
        Check.due("14: none is in the hall yet", x.line(0, 6), 0);
        x.tick(3);
        Check.due("14: three are in the hall", x.line(0, 6), 3);
        x.tick(1);
        Check.due("14: the hall has no room", x.line(0, 6), 3);
        Check.due("14: ticket 3 rides on", x.ticket(3, 6), 1);
        Check.due("14: with all its laps", x.ticket(3, 4), 9);
        x.book(5, 1, 10, 1, 1);
        x.tick(2);
        Check.due("14: where it boarded it uses a lap", x.ticket(3, 4), 8);
        x.tick(3);
        Check.due("14: at a full hall a lap is used, too", x.ticket(5, 6), 6);
        Check.due("14: there", x.ticket(5, 12), 10);
        Check.due("14: nobody in the hall used one", x.ticket(1, 4), 9);
        x.cancel(4);
        x.tick(4);
        Check.due("14: there is room again", x.ticket(3, 6), 2);
    }

    private static void lapsKeptInTheHall() {
        MercuryLine x = twoLines();
        x.setHeat(0, 10);
        x.book(7, 1, 1, 11, 4);
        x.tick(3);
        Check.due("14: two laps are used on line 0", x.ticket(0, 4), 2);
        x.setHeat(0, 0);
        x.setHeat(1, 10);
        x.tick(3);
        Check.due("14: it rides line 1 with the laps it had, less one", x.ticket(0, 4), 1);
        Check.due("14: line", x.ticket(0, 7), 1);
        Check.due("14: paid as booked", x.ticket(0, 5), 40);
    }

    private static void shovingOut() {
        MercuryLine x = Setup.oneLine(4, 0, 3, 2);
        x.setPatience(0);
        x.book(1, 1, 0, 2, 5);
        x.tick(1);
        x.book(2, 1, 1, 0, 5);
        x.book(3, 3, 1, 0, 5);
        Check.due("14: words that arrive", x.tick(1), 0);
        Check.due("14: the greater class shoves", x.slot(0, 0), 2);
        Check.due("14: state", x.ticket(0, 6), 5);
        Check.due("14: laps left", x.ticket(0, 4), 5);
        Check.due("14: station of the end", x.ticket(0, 12), 1);
        Check.due("14: tick of the end", x.ticket(0, 11), 1);
        Check.due("14: by whom", x.ticket(0, 13), 2);
        Check.due("14: by nobody", x.ticket(2, 13), NONE);
        Check.due("14: shoved out there", x.station(1, 6), 1);
        Check.due("14: boarded there", x.station(1, 3), 1);
        Check.due("14: refunded", x.count(13), 50);
        event(x, 0, 0, 2, 0, 1, 1);
        event(x, 1, 5, 0, 0, 1, 1);
        Check.due("14: the other one waits on", x.ticket(1, 6), 0);
        Check.due("14: an arriving word gives its slot up", arriveAndBoard(), 3);
    }

    private static int arriveAndBoard() {
        MercuryLine x = Setup.oneLine(4, 0, 3);
        x.setPatience(0);
        x.book(1, 1, 0, 1, 5);
        x.tick(1);
        x.book(3, 3, 1, 0, 5);
        x.tick(1);
        Check.due("14: its slot is taken", x.slot(0, 0), 1);
        return x.ticket(0, 6);
    }

    private static void shovingByClass() {
        for (int rider = 1; rider <= 3; rider++) {
            for (int other = 1; other <= 3; other++) {
                MercuryLine x = Setup.oneLine(4, 0, 3, 2);
                x.setPatience(0);
                x.book(1, rider, 0, 2, 5);
                x.tick(1);
                x.book(2, other, 1, 0, 5);
                x.tick(1);
                String classes = "14: class " + other + " at class " + rider;
                Check.due(classes, x.slot(0, 0), other > rider ? 1 : 0);
            }
        }
    }

    private static void shovingNeedsPatience() {
        MercuryLine x = Setup.oneLine(4, 0, 1);
        x.setHeat(0, 10);
        x.book(1, 1, 0, 1, 9);
        x.tick(1);
        x.book(2, 2, 0, 1, 9);
        x.tick(3);
        Check.due("14: it has waited 2 ticks in tick 3", x.slot(0, 0), 0);
        x.tick(1);
        Check.due("14: and 3 in tick 4", x.slot(0, 0), 1);
        Check.due("14: tick", x.ticket(0, 11), 4);
    }

    private static void shovingAfterALap() {
        MercuryLine x = Setup.oneLine(4, 0, 1);
        x.setHeat(0, 10);
        x.setPatience(0);
        x.book(1, 2, 0, 1, 2);
        x.tick(1);
        x.book(2, 3, 0, 1, 2);
        x.tick(1);
        Check.due("14: shoved out", x.ticket(0, 6), 5);
        Check.due("14: with a lap less", x.ticket(0, 4), 1);
        x.book(3, 2, 0, 1, 2);
        x.tick(1);
        Check.due("14: a lesser class shoves nobody", x.slot(0, 0), 1);
    }

    private static void patienceInTheHall() {
        MercuryLine x = Setup.oneLine(4, 0, 1);
        x.build(1, 4);
        x.addStation(1, 0);
        x.addStation(1, 1);
        x.setHeat(0, 10);
        x.book(1, 1, 0, 1, 9);
        x.book(2, 2, 11, 1, 9);
        x.tick(2);
        Check.due("14: it comes into the hall in tick 1", x.ticket(1, 6), 2);
        x.tick(2);
        Check.due("14: it has waited 2 ticks there in tick 3", x.slot(0, 0), 0);
        x.tick(1);
        Check.due("14: and 3 in tick 4", x.slot(0, 0), 1);
        Check.due("14: by the one of the hall", x.ticket(0, 13), 1);
        Check.due("14: nobody is in the hall", x.line(0, 6), 0);
    }

    private static void heat() {
        MercuryLine x = new MercuryLine();
        x.setHeat(0, 4);
        x.setHeat(1, -6);
        int[][] due = {{1, 104, 1, 94}, {2, 108, 3, 98}, {2, 102, 4, 92}, {3, 106, 6, 96},
            {3, 100, 0, 100}, {4, 104, 1, 94}};
        for (int tick = 0; tick < due.length; tick++) {
            x.tick(1);
            Check.due("14: phase of line 0", x.line(0, 1), due[tick][0]);
            Check.due("14: drift of line 0", x.line(0, 2), due[tick][1]);
            Check.due("14: phase of line 1", x.line(1, 1), due[tick][2]);
            Check.due("14: drift of line 1", x.line(1, 2), due[tick][3]);
        }
        Check.due("14: pauses of line 0", x.line(0, 7), 2);
        Check.due("14: skips of line 0", x.line(0, 8), 0);
        Check.due("14: pauses of line 1", x.line(1, 7), 0);
        Check.due("14: skips of line 1", x.line(1, 8), 3);
        event(x, 0, 7, NONE, 1, NONE, 4);
        event(x, 1, 6, NONE, 0, NONE, 4);
        event(x, 2, 7, NONE, 1, NONE, 3);
        event(x, 3, 6, NONE, 0, NONE, 2);
        event(x, 4, 7, NONE, 1, NONE, 1);
        Check.due("14: no more events", x.event(5, 0), NONE);
    }

    private static void aSkippedStation() {
        MercuryLine x = Setup.oneLine(4, 0, 1);
        x.setHeat(0, -10);
        x.book(1, 1, 0, 1, 1);
        x.tick(2);
        Check.due("14: slot 0 skips past station 1", x.ticket(0, 6), 1);
        x.tick(1);
        Check.due("14: and is back", x.ticket(0, 6), 6);
    }

    private static void ordersInATick() {
        MercuryLine x = Setup.oneLine(8, 0, 4);
        x.book(1, 1, 0, 1, 1);
        x.book(2, 2, 0, 1, 1);
        x.cancel(0);
        x.cancel(1);
        x.order(1, 1);
        x.order(0, 1);
        x.tick(1);
        Check.due("14: by the numbers of the orders", x.ticket(2, 0), 2);
        Check.due("14: the second order", x.ticket(3, 0), 1);
        Check.due("14: they are booked ahead of boarding", x.ticket(2, 6), 1);
        Check.due("14: in that tick", x.ticket(2, 9), 0);
        Check.due("14: boarded in that tick", x.ticket(2, 10), 0);
        Check.due("14: not recorded", x.undo(), 3);
        Check.due("14: undone", x.count(1), 2);
    }

    private static void ordersWithoutRoom() {
        MercuryLine x = Setup.oneLine(8, 0, 4);
        for (int i = 0; i < 39; i++) {
            x.book(i, 1, 0, 1, 1);
        }
        x.order(0, 2);
        x.order(1, 3);
        x.tick(7);
        Check.due("14: there are 40", x.count(1), 40);
        Check.due("14: booked by order 0", x.ordered(0, 2), 1);
        Check.due("14: order 0 skipped in 2, 4 and 6", x.ordered(0, 3), 3);
        Check.due("14: booked by order 1", x.ordered(1, 2), 0);
        Check.due("14: order 1 skipped in 0, 3 and 6", x.ordered(1, 3), 3);
        x.endOrder(0);
        x.tick(2);
        Check.due("14: an ended order is skipped no more", x.ordered(0, 3), 3);
    }
}
